import java.io.IOException;
import java.io.PrintWriter;
import java.io.StringWriter;
import java.lang.reflect.Constructor;
import java.lang.reflect.Field;
import java.lang.reflect.Method;
import java.lang.reflect.Modifier;
import java.nio.file.Files;
import java.nio.file.Path;
import java.util.ArrayList;
import java.util.Arrays;
import java.util.List;
import java.util.Map;
import java.util.Set;
import java.util.TreeMap;
import java.util.TreeSet;
import java.util.regex.Matcher;
import java.util.regex.Pattern;
import java.util.spi.ToolProvider;
import java.util.stream.Collectors;

/** Holds the source and the compiled class against the rules of ../shared/LANGUAGE.md that can be told by looking. */
public final class LanguageTest {
    private static final int MOST_LINES = 60;
    private static final int MOST_PARAMETERS = 7;
    private static final int MOST_FIELDS = 20;
    private static final int MOST_CLASSES = 12;

    /** The face, as the document writes it. */
    private static final List<String> FACE = List.of(
            "int tick(int)", "int sit(int,int)", "int part()", "int rejoin(boolean)", "int off(int,boolean)",
            "int carry(int,int,boolean)", "int carryAll(int)", "int enter(int,int)", "int leave(int,int)",
            "int say(int,int,int,int,int,int)", "int edit(int,int,int,int)", "int back(int,int)",
            "int mark(int,int,int,boolean)", "int pin(int,int,boolean)", "int poll(int,int,int)",
            "int vote(int,int,int)", "int right(int,int,int,int,boolean)", "int call(int,int,int)",
            "int bar(int,int,int,boolean)", "int slow(int,int,int,int)", "int lock(int,int,boolean)",
            "int keyword(int,int)", "int rule(int,int,int)", "int read(int,int)", "String notices(int)",
            "String drawn(int,int,boolean)", "String was(int,int,int)", "int ofWord(int,int,int)",
            "String text(int,int)", "String tally(int,int)", "String found(int,int,int)", "String order(int,int)",
            "String summary(int)", "int ofRoom(int,int,int)", "int rights(int,int,int)", "String export(int,int)",
            "String again(int,int)", "String way(int)", "String waiting(int)", "int ofPlace(int,int)",
            "int ofAct(int,int)", "int house(int)", "int knock()", "boolean isSound()", "long digest()");

    private static final List<String> NOT_ALLOWED = List.of(
            "\\bimport\\b", "\\bpackage\\b", "->", "::", "\\btry\\b", "\\bcatch\\b", "\\bfinally\\b",
            "\\bsynchronized\\b", "\\bassert\\b", "\\bstatic\\s*\\{", "\\bSystem\\b", "\\bThread\\b", "\\bClass\\b",
            "\\bdouble\\b", "\\bfloat\\b", "\\.equals\\(", "\\bhashCode\\b", "\\bvolatile\\b", "\\bnative\\b",
            "\\w+Exact\\b", "\\bString\\.(valueOf|format)\\b", "\"\\s*\\+", "\\+\\s*\"", "\\bObject\\b", "\\bvar\\b");

    private static final int MOST_DEPTH = 8;
    private static final Set<String> LIBRARY = Set.of("Integer.bitCount", "Long.bitCount", "Math.max", "Math.abs");

    private LanguageTest() {
    }

    public static void main(String[] args) throws IOException {
        String whole = Files.readString(Path.of(args[0]));
        String bare = whole.replaceAll("(?s)/\\*.*?\\*/", "").replaceAll("//[^\n]*", "")
                .replaceAll("\"(\\\\.|[^\"\\\\])*\"", "\"\"").replaceAll("'(\\\\.|[^'\\\\])'", "' '");
        rule1Face();
        rule5Statics();
        rules6And10Words(bare);
        rule4Library(bare);
        rule11Sizes(whole);
        rule11Depth();
        Check.finish("LanguageTest");
    }

    private static List<Class<?>> classes() {
        List<Class<?>> all = new ArrayList<>(List.of(Roomtalk.class));
        all.addAll(Arrays.asList(Roomtalk.class.getDeclaredClasses()));
        return all;
    }

    private static void rule1Face() {
        Set<String> due = new TreeSet<>(FACE);
        Set<String> names = FACE.stream().map(f -> f.replaceAll(".* |\\(.*", "")).collect(Collectors.toSet());
        Set<String> got = new TreeSet<>();
        for (Method method : Roomtalk.class.getDeclaredMethods()) {
            if (Modifier.isPublic(method.getModifiers())) {
                got.add(method.getReturnType().getSimpleName() + " " + method.getName() + "("
                        + Arrays.stream(method.getParameterTypes()).map(Class::getName)
                                .collect(Collectors.joining(",")) + ")");
            } else if (!method.isSynthetic()) {
                Check.same("private " + method.getName(), true, Modifier.isPrivate(method.getModifiers()));
            }
        }
        Check.same("the face", due, got);
        for (Constructor<?> made : Roomtalk.class.getDeclaredConstructors()) {
            Check.same("the constructor", "public Roomtalk()", made.toString());
        }
        for (Field field : Roomtalk.class.getDeclaredFields()) {
            Check.same("private " + field.getName(), true, Modifier.isPrivate(field.getModifiers()));
        }
        Check.same("public and final", "public final", Modifier.toString(Roomtalk.class.getModifiers()));
        for (Class<?> inside : classes()) {
            for (Method method : inside.getDeclaredMethods()) {
                boolean isFace = inside == Roomtalk.class && Modifier.isPublic(method.getModifiers());
                Check.same("its own name " + method, isFace, names.contains(method.getName()));
            }
        }
    }

    private static void rule5Statics() {
        for (Class<?> one : classes()) {
            Check.same("static " + one, true, one == Roomtalk.class || Modifier.isStatic(one.getModifiers()));
            for (Field field : one.getDeclaredFields()) {
                if (Modifier.isStatic(field.getModifiers())) {
                    Check.same("final " + field, true, Modifier.isFinal(field.getModifiers()));
                    Check.same("a constant " + field, true, field.getType().isPrimitive());
                }
            }
        }
    }

    private static void rules6And10Words(String bare) {
        for (String word : NOT_ALLOWED) {
            Matcher found = Pattern.compile(word).matcher(bare);
            Check.same("not allowed: " + word, null, found.find() ? found.group() : null);
        }
        Set<String> thrown = new TreeSet<>();
        Matcher found = Pattern.compile("throw\\s+(new\\s+\\w+\\(\"\"\\);|[^;]*;)").matcher(bare);
        while (found.find()) {
            thrown.add(found.group(1));
        }
        Check.same("thrown", Set.of("new IllegalArgumentException(\"\");", "new IllegalStateException(\"\");",
                "new IndexOutOfBoundsException(\"\");"), thrown);
    }

    private static void rule4Library(String bare) {
        Matcher found = Pattern.compile("\\b(Integer|Long|Math|Character|Arrays|String|Boolean)\\.\\w+").matcher(bare);
        while (found.find()) {
            Check.same("of the library: " + found.group(), true, LIBRARY.contains(found.group()));
        }
    }

    private static void rule11Sizes(String whole) {
        Check.same("classes", true, classes().size() <= MOST_CLASSES);
        for (Class<?> one : classes()) {
            long fields = Arrays.stream(one.getDeclaredFields())
                    .filter(f -> !Modifier.isStatic(f.getModifiers())).count();
            Check.same("fields of " + one, true, fields <= MOST_FIELDS);
            for (Method method : one.getDeclaredMethods()) {
                Check.same("parameters of " + method, true, method.getParameterCount() <= MOST_PARAMETERS);
            }
        }
        String[] lines = whole.split("\n");
        for (int k = 0; k < lines.length; k++) {
            Check.same("signs 1 to 126 in line " + (k + 1), true, lines[k].chars().allMatch(c -> c > 0 && c < 127));
            Matcher head = Pattern.compile("^( {4}| {8})(?! )[\\w<>\\[\\] ]+\\(.*\\).*\\{$").matcher(lines[k]);
            if (head.matches()) {
                String end = head.group(1) + "}";
                int last = k;
                while (last < lines.length && !lines[last].equals(end)) {
                    last++;
                }
                Check.same("length of the method in line " + (k + 1), true, last - k + 1 <= MOST_LINES);
            }
        }
    }

    /** Calls as javap tells them, those of the library counted: none comes back to itself, none goes too deep. */
    private static void rule11Depth() {
        Map<String, Set<String>> calls = new TreeMap<>();
        for (Class<?> one : classes()) {
            addCalls(calls, one.getName());
        }
        for (String method : calls.keySet()) {
            int depth = depthOf(method, calls, MOST_DEPTH + 1);
            Check.same("calls of " + method + " go at most eight deep", true, depth <= MOST_DEPTH);
        }
        Check.same("the methods were found", true, calls.size() > 100);
        Check.same("the calls were found", true, depthOf("Roomtalk.say", calls, MOST_DEPTH + 1) > 5);
    }

    private static int depthOf(String method, Map<String, Set<String>> calls, int most) {
        int deepest = 0;
        if (most > 0) {
            for (String called : calls.getOrDefault(method, Set.of())) {
                deepest = Math.max(deepest, depthOf(called, calls, most - 1));
            }
        }
        return deepest + 1;
    }

    private static void addCalls(Map<String, Set<String>> calls, String owner) {
        StringWriter told = new StringWriter();
        PrintWriter out = new PrintWriter(told);
        String path = Roomtalk.class.getProtectionDomain().getCodeSource().getLocation().getPath();
        ToolProvider.findFirst("javap").orElseThrow().run(out, out, "-c", "-p", "-cp", path, owner);
        Pattern head = Pattern.compile("^  \\S.*?([\\w$]+)\\(.*\\).*;$");
        Pattern call = Pattern.compile("// (?:Interface)?Method (?:([\\w/$]+)\\.)?\"?([\\w<>$]+)\"?:");
        String method = owner;
        for (String line : told.toString().split("\n")) {
            Matcher begun = head.matcher(line);
            Matcher called = call.matcher(line);
            if (begun.matches()) {
                boolean isMade = owner.endsWith(begun.group(1));
                method = owner + "." + (isMade ? "<init>" : begun.group(1));
                calls.computeIfAbsent(method, name -> new TreeSet<>());
            } else if (called.find()) {
                String other = called.group(1) == null ? owner : called.group(1);
                calls.get(method).add(other + "." + called.group(2));
            }
        }
    }
}
