import java.io.IOException;
import java.lang.reflect.InvocationTargetException;
import java.net.URL;
import java.net.URLClassLoader;
import java.nio.file.Files;
import java.nio.file.Path;
import java.util.ArrayList;
import java.util.Arrays;
import java.util.List;
import java.util.regex.Matcher;
import java.util.regex.Pattern;
import java.util.spi.ToolProvider;

/** Runs the calls that README.md shows, on one object, and holds each answer against the one that stands there. */
public final class ReadmeTest {
    private static final Pattern BLOCK = Pattern.compile("(?s)```java\n(.*?)```");
    private static final Pattern CALL = Pattern.compile("(house\\.\\w+\\(.*?\\)); +// (.+)");

    private ReadmeTest() {
    }

    public static void main(String[] args) throws Exception {
        Path root = Path.of(args[0]).toAbsolutePath().resolve("../../../..").normalize();
        String readme = Files.readString(root.resolve("README.md"));
        Matcher block = BLOCK.matcher(readme);
        Check.same("a run of calls is shown", true, block.find());
        List<String> calls = new ArrayList<>();
        List<String> due = new ArrayList<>();
        for (String line : block.group(1).split("\n")) {
            Matcher call = CALL.matcher(line);
            if (call.matches()) {
                calls.add(call.group(1));
                due.add(call.group(2));
            } else {
                boolean isOther = line.isEmpty() || line.startsWith("// ")
                        || line.equals("Roomtalk house = new Roomtalk();");
                Check.same("a line that shows no answer: " + line, true, isOther);
            }
        }
        String[] got = answersTo(calls);
        for (int k = 0; k < calls.size(); k++) {
            Check.same(calls.get(k), due.get(k), got[k]);
        }
        Check.same("calls are shown", true, calls.size() > 10);
        for (String told : List.of("javac -d out src/main/java/Roomtalk.java", ".ci/run")) {
            Check.same("it tells of " + told, true, readme.contains("\n    " + told + "\n"));
        }
        Check.finish("ReadmeTest");
    }

    private static String[] answersTo(List<String> calls) throws Exception {
        Path made = Files.createTempDirectory("readme");
        try {
            Path source = made.resolve("Run.java");
            Files.writeString(source, programOf(calls));
            int ended = ToolProvider.findFirst("javac").orElseThrow()
                    .run(System.out, System.out, "-cp", System.getProperty("java.class.path"), "-d", made.toString(),
                            source.toString());
            Check.same("the calls are compiled", 0, ended);
            return run(made, calls.size());
        } finally {
            clear(made);
        }
    }

    private static String[] run(Path made, int count) throws Exception {
        try (URLClassLoader loader = new URLClassLoader(new URL[] {made.toUri().toURL()})) {
            return (String[]) loader.loadClass("Run").getMethod("answers").invoke(null);
        } catch (ClassNotFoundException | InvocationTargetException e) {
            Check.same("the calls are run", null, e.toString());
            String[] none = new String[count];
            Arrays.fill(none, "");
            return none;
        }
    }

    private static String programOf(List<String> calls) {
        StringBuilder text = new StringBuilder("public final class Run {\n")
                .append("static String shown(Object o) { return o instanceof String ? '\"' + (String) o + '\"' : \"\" + o; }\n")
                .append("public static String[] answers() {\nRoomtalk house = new Roomtalk();\n")
                .append("String[] all = new String[").append(calls.size()).append("];\n");
        for (int k = 0; k < calls.size(); k++) {
            text.append("try { all[").append(k).append("] = shown(").append(calls.get(k)).append("); }\n")
                    .append("catch (RuntimeException e) { all[").append(k)
                    .append("] = \"throws \" + e.getClass().getSimpleName(); }\n");
        }
        return text.append("return all;\n}\n}\n").toString();
    }

    private static void clear(Path made) throws IOException {
        for (String name : List.of("Run.java", "Run.class")) {
            Files.deleteIfExists(made.resolve(name));
        }
        Files.deleteIfExists(made);
    }
}
