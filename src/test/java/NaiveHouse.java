import java.util.ArrayDeque;
import java.util.ArrayList;
import java.util.Arrays;
import java.util.Comparator;
import java.util.List;
import java.util.Map;
import java.util.Set;
import java.util.TreeMap;
import java.util.TreeSet;
import java.util.stream.Collectors;

/**
 * The document written down once more, as plainly as can be and with all of the Java library, so
 * that Roomtalk can be held against it. Nothing of Roomtalk is used here.
 */
final class NaiveHouse {
    static final String[] PIECES = "hey rain bread boat yes no @0 @1 @2 @3 @4 @5".split(" ");

    static final class Act {
        int number;
        int room;
        String kind;
        int member;
        int time;
        int height;
        int age;
        int[] says = {-1, -1, -1, -1};
        Set<Integer> causes = new TreeSet<>();
    }

    static final List<String> KINDS = List.of("enter", "leave", "say", "edit", "back", "mark", "unmark", "pin",
            "poll", "vote", "right", "call", "bar", "slow", "lock");

    static final class Word {
        Act act;
        List<Integer> pieces = new ArrayList<>();
        boolean isGone;
        boolean isEdited;
        boolean isPinned;
        Map<Integer, Set<Integer>> signs = new TreeMap<>();
        Map<Integer, Integer> votes = new TreeMap<>();

        int answered() {
            return act.kind.equals("say") ? act.says[0] : -1;
        }

        boolean isPoll() {
            return act.kind.equals("poll");
        }

        String text() {
            if (isGone) {
                return "-";
            }
            return isPoll() ? "poll" + act.says[0]
                    : pieces.stream().map(p -> PIECES[p]).collect(Collectors.joining(" "));
        }
    }

    /** What acts make of a room. */
    static final class Seen {
        int room;
        Set<Integer> in = new TreeSet<>();
        Set<Integer> called = new TreeSet<>();
        Set<Integer> barred = new TreeSet<>();
        boolean isPrivate;
        int many;
        int span;
        List<Set<Integer>> rights = new ArrayList<>();
        List<Act> played = new ArrayList<>();
        Set<Integer> voids = new TreeSet<>();
        Map<Integer, Word> words = new java.util.LinkedHashMap<>();

        Seen(int room) {
            this.room = room;
            in.add(room);
            isPrivate = room == 2;
            for (int k = 0; k < 6; k++) {
                rights.add(new TreeSet<>(k == room ? List.of(0, 1, 2, 3, 4, 5) : List.of(0)));
            }
        }

        boolean has(int member, int right) {
            return rights.get(member).contains(right);
        }

        /** The number that is told of what is lacking, or 0. */
        int lack(Act act) {
            int me = act.member;
            if (act.kind.equals("enter")) {
                boolean isShut = barred.contains(me) || isPrivate && !called.contains(me) && me != room;
                return isShut ? -7 : 0;
            }
            boolean isAbout = List.of("edit", "back", "mark", "unmark", "pin", "vote").contains(act.kind);
            Word word = isAbout ? words.get(act.says[0]) : null;
            if (isAbout && word == null) {
                return -5;
            }
            if (act.kind.equals("vote") && (!word.isPoll() || act.says[1] >= word.act.says[0])) {
                return -5;
            }
            if (!in.contains(me)) {
                return -2;
            }
            boolean isRight = switch (act.kind) {
                case "say", "poll" -> has(me, 0);
                case "edit" -> word.act.member == me || has(me, 1);
                case "back" -> word.act.member == me || has(me, 2);
                case "pin" -> has(me, 3);
                case "right" -> has(me, 5) && has(me, act.says[1]);
                case "call", "bar", "slow", "lock" -> has(me, 4);
                default -> true;
            };
            if (!isRight) {
                return -3;
            }
            if (isAbout && word.isGone) {
                return -6;
            }
            if ((act.kind.equals("say") || act.kind.equals("poll")) && many > 0) {
                for (int t = act.time - span + 1; t <= act.time; t++) {
                    int from = t;
                    long those = words.values().stream().filter(w -> w.act.member == me)
                            .filter(w -> w.act.time >= from && w.act.time <= from + span - 1).count();
                    if (those + 1 > many) {
                        return -4;
                    }
                }
            }
            return 0;
        }

        void play(Act act) {
            played.add(act);
            if (lack(act) != 0) {
                voids.add(act.number);
                return;
            }
            Word word = words.get(act.says[0]);
            switch (act.kind) {
                case "enter" -> in.add(act.member);
                case "leave" -> in.remove(act.member);
                case "say", "poll" -> {
                    Word made = new Word();
                    made.act = act;
                    if (act.kind.equals("say")) {
                        Arrays.stream(act.says, 1, 4).filter(p -> p >= 0).forEach(made.pieces::add);
                    }
                    words.put(act.number, made);
                }
                case "edit" -> {
                    if (!word.isPoll()) {
                        word.pieces.clear();
                        Arrays.stream(act.says, 1, 3).filter(p -> p >= 0).forEach(word.pieces::add);
                        word.isEdited = true;
                    }
                }
                case "back" -> word.isGone = true;
                case "mark" -> word.signs.computeIfAbsent(act.says[1], k -> new TreeSet<>()).add(act.member);
                case "unmark" -> word.signs.computeIfAbsent(act.says[1], k -> new TreeSet<>()).remove(act.member);
                case "pin" -> word.isPinned = act.says[1] == 1;
                case "vote" -> word.votes.put(act.member, act.says[1]);
                case "right" -> put(rights.get(act.says[0]), act.says[1], act.says[2] == 1);
                case "call" -> called.add(act.says[0]);
                case "bar" -> {
                    put(barred, act.says[0], act.says[1] == 1);
                    if (act.says[1] == 1) {
                        in.remove(act.says[0]);
                    }
                }
                case "slow" -> {
                    many = act.says[0];
                    span = many == 0 ? 0 : act.says[1];
                }
                case "lock" -> isPrivate = act.says[0] == 1;
                default -> throw new AssertionError(act.kind);
            }
        }

        static void put(Set<Integer> set, int number, boolean is) {
            if (is) {
                set.add(number);
            } else {
                set.remove(number);
            }
        }

        String drawnWord(Word word, boolean isHidden) {
            StringBuilder s = new StringBuilder(word.act.number + ":" + word.act.member + ":");
            if (isHidden || word.isGone) {
                return s.append("-").toString();
            }
            s.append(word.text());
            if (word.isEdited) {
                s.append("*");
            }
            word.signs.forEach((sign, by) -> s.append(by.isEmpty() ? "" : "+" + sign + "x" + by.size()));
            return s.append(word.isPinned ? "^" : "").toString();
        }

        String flat(Seen now) {
            return words.values().stream().map(w -> {
                Word later = now.words.get(w.act.number);
                return drawnWord(w, later != null && later.isGone);
            }).collect(Collectors.joining(" / "));
        }

        List<Word> answers(int number) {
            return words.values().stream().filter(w -> w.answered() == number).toList();
        }

        void nest(Word word, int depth, List<String> into) {
            into.add(">".repeat(depth) + drawnWord(word, false));
            answers(word.act.number).forEach(w -> nest(w, depth + 1, into));
        }

        String nested() {
            List<String> all = new ArrayList<>();
            words.values().stream().filter(w -> !words.containsKey(w.answered())).forEach(w -> nest(w, 0, all));
            return String.join(" / ", all);
        }

        int below(int number) {
            return answers(number).stream().mapToInt(w -> 1 + below(w.act.number)).sum();
        }
    }

    static final class Place {
        int number;
        boolean isOff;
        int doubled;
        List<Integer> heard = new ArrayList<>();
        List<Integer> way = new ArrayList<>();
        Set<Integer> waits = new TreeSet<>();
        int[] marks = new int[3];

        int member() {
            return number / 2;
        }

        boolean lacks(int act) {
            return !heard.contains(act) && !way.contains(act) && !waits.contains(act);
        }
    }

    static final class Member {
        int half;
        int keyword = -1;
        List<Integer> notices = new ArrayList<>();
        List<int[]> rules = new ArrayList<>();
    }

    int clock;
    boolean isParted;
    int botWords;
    int refused;
    List<Act> acts = new ArrayList<>();
    List<Place> places = new ArrayList<>();
    List<Member> members = new ArrayList<>();
    List<Set<Integer>> halves = List.of(new TreeSet<>(), new TreeSet<>());
    ArrayDeque<int[]> answers = new ArrayDeque<>();

    NaiveHouse() {
        for (int k = 0; k < 12; k++) {
            places.add(new Place());
            places.get(k).number = k;
        }
        for (int k = 0; k < 6; k++) {
            members.add(new Member());
        }
    }

    // ---- views

    List<Act> ordered(Iterable<Integer> known, int room) {
        List<Act> all = new ArrayList<>();
        for (int number : known) {
            if (acts.get(number).room == room) {
                all.add(acts.get(number));
            }
        }
        all.sort(Comparator.<Act>comparingInt(a -> a.height).thenComparingInt(a -> a.member)
                .thenComparingInt(a -> a.number));
        return all;
    }

    Seen seen(Iterable<Integer> known, int room) {
        Seen seen = new Seen(room);
        ordered(known, room).forEach(seen::play);
        return seen;
    }

    Seen viewOf(int place, int room) {
        return seen(places.get(place).heard, room);
    }

    List<Integer> heardIn(int place, int room) {
        return places.get(place).heard.stream().filter(n -> acts.get(n).room == room).toList();
    }

    // ---- arguments

    static void needIndex(boolean is) {
        if (!is) {
            throw new IndexOutOfBoundsException();
        }
    }

    static void needArgument(boolean is) {
        if (!is) {
            throw new IllegalArgumentException();
        }
    }

    static void placeAndRoom(int place, int room) {
        needIndex(isOne(place, 12));
        needIndex(isOne(room, 3));
    }

    static boolean isOne(int number, int many) {
        return number >= 0 && number < many;
    }

    // ---- time, halves, ways

    int tick(int ticks) {
        needArgument(isOne(ticks, 1001));
        if (clock + ticks > 100000) {
            throw new IllegalStateException();
        }
        return clock += ticks;
    }

    int sit(int member, int half) {
        needIndex(isOne(member, 6) && isOne(half, 2));
        if (members.get(member).half == half) {
            return 0;
        }
        members.get(member).half = half;
        int before = halves.get(half).size();
        for (int place = 2 * member; place <= 2 * member + 1; place++) {
            for (int number : places.get(place).heard) {
                halves.get(half).add(number);
                halves.get(half).addAll(acts.get(number).causes);
            }
        }
        catchUpAt(half);
        return halves.get(half).size() - before;
    }

    int part() {
        int answer = isParted ? 0 : 1;
        isParted = true;
        return answer;
    }

    int rejoin(boolean isSecond) {
        if (!isParted) {
            return -1;
        }
        isParted = false;
        Set<Integer> both = new TreeSet<>(halves.get(0));
        both.addAll(halves.get(1));
        int came = 2 * both.size() - halves.get(0).size() - halves.get(1).size();
        halves.forEach(h -> h.addAll(both));
        places.stream().filter(p -> !p.isOff).forEach(this::catchUp);
        return came;
    }

    int off(int place, boolean isOff) {
        needIndex(isOne(place, 12));
        Place p = places.get(place);
        int answer = p.isOff ? 1 : 0;
        p.isOff = isOff;
        if (answer == 1 && !isOff) {
            catchUp(p);
        }
        return answer;
    }

    void catchUpAt(int half) {
        for (Place p : places) {
            if (!p.isOff && members.get(p.member()).half == half) {
                catchUp(p);
            }
        }
    }

    void catchUp(Place p) {
        Set<Integer> has = halves.get(members.get(p.member()).half);
        for (int room = 0; room < 3; room++) {
            if (seen(has, room).in.contains(p.member())) {
                for (Act act : ordered(has, room)) {
                    if (p.lacks(act.number)) {
                        p.way.add(act.number);
                    }
                }
            }
        }
    }

    int carry(int place, int nth, boolean isTwice) {
        needIndex(isOne(place, 12));
        Place p = places.get(place);
        needIndex(isOne(nth, p.way.size()));
        int act = p.way.get(nth);
        if (!isTwice) {
            p.way.remove(nth);
        }
        int heard = arrive(p, act);
        answer(p);
        return heard;
    }

    int carryAll(int place) {
        needIndex(isOne(place, 12));
        Place p = places.get(place);
        List<Integer> row = new ArrayList<>(p.way);
        int heard = 0;
        for (int act : row) {
            p.way.remove(0);
            heard += arrive(p, act);
        }
        answer(p);
        return heard;
    }

    int arrive(Place p, int act) {
        if (p.heard.contains(act) || p.waits.contains(act)) {
            p.doubled++;
            return 0;
        }
        if (!p.heard.containsAll(acts.get(act).causes)) {
            p.waits.add(act);
            return 0;
        }
        hear(p, act);
        int heard = 1;
        boolean isMore = true;
        while (isMore) {
            isMore = false;
            for (int waiting : p.waits) {
                if (p.heard.containsAll(acts.get(waiting).causes)) {
                    p.waits.remove(waiting);
                    hear(p, waiting);
                    heard++;
                    isMore = true;
                    break;
                }
            }
        }
        return heard;
    }

    void hear(Place p, int number) {
        p.heard.add(number);
        Act act = acts.get(number);
        Member reader = members.get(p.member());
        Seen seen = viewOf(p.number, act.room);
        Word word = seen.words.get(number);
        if (word == null || word.isGone || act.member == p.member()) {
            return;
        }
        Word answered = seen.words.get(word.answered());
        boolean isMeant = word.pieces.contains(6 + p.member())
                || answered != null && answered.act.member == p.member()
                || word.pieces.contains(reader.keyword);
        if (isMeant && !reader.notices.contains(number)) {
            reader.notices.add(number);
        }
        if (p.number % 2 == 0 && act.age < 3) {
            reader.rules.stream().filter(r -> word.pieces.contains(r[0])).findFirst()
                    .ifPresent(r -> answers.add(new int[] {number, r[1]}));
        }
    }

    void answer(Place p) {
        while (!answers.isEmpty()) {
            int[] one = answers.poll();
            Act to = acts.get(one[0]);
            int made = done(p.number, "say", to.room, to.age + 1, to.number, one[1], -1, -1);
            botWords += made >= 0 ? 1 : 0;
        }
    }

    // ---- acts

    int done(int place, String kind, int room, int age, int... says) {
        Place p = places.get(place);
        if (p.isOff) {
            return -1;
        }
        if (acts.size() == 120) {
            return -8;
        }
        if (room < 0) {
            return -5;
        }
        int half = members.get(p.member()).half;
        List<Integer> known = new ArrayList<>(kind.equals("enter") ? halves.get(half) : p.heard);
        Act act = new Act();
        act.number = acts.size();
        act.room = room;
        act.kind = kind;
        act.member = p.member();
        act.time = clock;
        act.age = age;
        System.arraycopy(says, 0, act.says, 0, says.length);
        Seen seen = seen(known, room);
        if (kind.equals("say") && says[0] != -1 && !seen.words.containsKey(says[0])) {
            return -5;
        }
        int lack = seen.lack(act);
        if (lack != 0) {
            return lack;
        }
        for (int number : known) {
            if (acts.get(number).room == room) {
                act.causes.add(number);
                act.height = Math.max(act.height, acts.get(number).height + 1);
            }
        }
        acts.add(act);
        if (!kind.equals("enter")) {
            p.heard.add(act.number);
        }
        for (int k = 0; k < 2; k++) {
            if (k == half || !isParted) {
                come(act, k);
            }
        }
        return act.number;
    }

    void come(Act act, int half) {
        Set<Integer> has = halves.get(half);
        if (!has.containsAll(act.causes)) {
            has.addAll(act.causes);
            catchUpAt(half);
        }
        Set<Integer> in = seen(has, act.room).in;
        for (Place p : places) {
            boolean sits = members.get(p.member()).half == half;
            if (sits && !p.isOff && in.contains(p.member()) && p.lacks(act.number)) {
                p.way.add(act.number);
            }
        }
        has.add(act.number);
        catchUpAt(half);
    }

    int roomOf(int word) {
        return isOne(word, acts.size()) ? acts.get(word).room : -1;
    }

    int enter(int place, int room) {
        placeAndRoom(place, room);
        return done(place, "enter", room, 0);
    }

    int leave(int place, int room) {
        placeAndRoom(place, room);
        return done(place, "leave", room, 0);
    }

    int say(int place, int room, int answered, int a, int b, int c) {
        placeAndRoom(place, room);
        needArgument(isOne(a, 12) && (b == -1 || isOne(b, 12)) && (c == -1 || isOne(c, 12)));
        needArgument(b != -1 || c == -1);
        return done(place, "say", room, 0, answered, a, b, c);
    }

    int edit(int place, int word, int a, int b) {
        needIndex(isOne(place, 12));
        needArgument(isOne(a, 12) && (b == -1 || isOne(b, 12)));
        return done(place, "edit", roomOf(word), 0, word, a, b);
    }

    int back(int place, int word) {
        needIndex(isOne(place, 12));
        return done(place, "back", roomOf(word), 0, word);
    }

    int mark(int place, int word, int sign, boolean is) {
        needIndex(isOne(place, 12));
        needArgument(isOne(sign, 5));
        return done(place, is ? "mark" : "unmark", roomOf(word), 0, word, sign);
    }

    int pin(int place, int word, boolean is) {
        needIndex(isOne(place, 12));
        return done(place, "pin", roomOf(word), 0, word, is ? 1 : 0);
    }

    int poll(int place, int room, int options) {
        placeAndRoom(place, room);
        needArgument(options >= 2 && options <= 4);
        return done(place, "poll", room, 0, options);
    }

    int vote(int place, int word, int option) {
        needIndex(isOne(place, 12));
        needArgument(isOne(option, 4));
        return done(place, "vote", roomOf(word), 0, word, option);
    }

    int right(int place, int room, int member, int right, boolean is) {
        placeAndRoom(place, room);
        needIndex(isOne(member, 6));
        needArgument(isOne(right, 6));
        return done(place, "right", room, 0, member, right, is ? 1 : 0);
    }

    int call(int place, int room, int member) {
        placeAndRoom(place, room);
        needIndex(isOne(member, 6));
        return done(place, "call", room, 0, member);
    }

    int bar(int place, int room, int member, boolean is) {
        placeAndRoom(place, room);
        needIndex(isOne(member, 6));
        return done(place, "bar", room, 0, member, is ? 1 : 0);
    }

    int slow(int place, int room, int many, int span) {
        placeAndRoom(place, room);
        needArgument(isOne(many, 6) && span >= 1 && span <= 100);
        return done(place, "slow", room, 0, many, span);
    }

    int lock(int place, int room, boolean is) {
        placeAndRoom(place, room);
        return done(place, "lock", room, 0, is ? 1 : 0);
    }

    // ---- members

    int keyword(int member, int piece) {
        needIndex(isOne(member, 6));
        needArgument(piece == -1 || isOne(piece, 12));
        int before = members.get(member).keyword;
        members.get(member).keyword = piece;
        return before;
    }

    int rule(int bot, int awaited, int answered) {
        needIndex(bot == 4 || bot == 5);
        needArgument(isOne(awaited, 12) && isOne(answered, 12));
        List<int[]> rules = members.get(bot).rules;
        if (rules.size() == 3) {
            throw new IllegalStateException();
        }
        rules.add(new int[] {awaited, answered});
        return rules.size();
    }

    List<Word> notRead(int place, int room) {
        Seen seen = viewOf(place, room);
        return heardIn(place, room).stream().skip(places.get(place).marks[room])
                .filter(seen.words::containsKey).map(seen.words::get)
                .filter(w -> !w.isGone && w.act.member != place / 2).toList();
    }

    int read(int place, int room) {
        placeAndRoom(place, room);
        int count = notRead(place, room).size();
        places.get(place).marks[room] = heardIn(place, room).size();
        return count;
    }

    static String row(Iterable<Integer> numbers) {
        StringBuilder all = new StringBuilder();
        numbers.forEach(n -> all.append(" ").append(n));
        return all.toString().trim();
    }

    String notices(int member) {
        needIndex(isOne(member, 6));
        List<Integer> all = members.get(member).notices;
        return row(all.subList(Math.max(0, all.size() - 9), all.size()));
    }

    // ---- what a place sees

    String drawn(int place, int room, boolean isNested) {
        placeAndRoom(place, room);
        Seen seen = viewOf(place, room);
        return isNested ? seen.nested() : seen.flat(seen);
    }

    String was(int place, int room, int many) {
        placeAndRoom(place, room);
        List<Integer> heard = heardIn(place, room);
        needArgument(isOne(many, heard.size() + 1));
        return seen(heard.subList(0, many), room).flat(viewOf(place, room));
    }

    Word wordOf(int place, int word) {
        needIndex(isOne(place, 12));
        needIndex(roomOf(word) >= 0);
        Word one = viewOf(place, roomOf(word)).words.get(word);
        needIndex(one != null);
        return one;
    }

    int ofWord(int place, int word, int what) {
        Word one = wordOf(place, word);
        needArgument(isOne(what, 10));
        Seen seen = viewOf(place, roomOf(word));
        return switch (what) {
            case 0 -> one.act.member;
            case 1 -> one.answered();
            case 2 -> one.isGone ? 1 : 0;
            case 3 -> one.isEdited && !one.isGone ? 1 : 0;
            case 4 -> one.isPinned && !one.isGone ? 1 : 0;
            case 5 -> one.isGone ? 0 : one.signs.values().stream().mapToInt(Set::size).sum();
            case 6 -> seen.answers(word).size();
            case 7 -> seen.below(word);
            case 8 -> one.act.age;
            default -> one.isPoll() ? one.act.says[0] : 0;
        };
    }

    String text(int place, int word) {
        return wordOf(place, word).text();
    }

    String tally(int place, int word) {
        Word one = wordOf(place, word);
        needIndex(one.isPoll());
        List<Integer> counts = new ArrayList<>();
        for (int k = 0; k < one.act.says[0]; k++) {
            int option = k;
            counts.add((int) one.votes.values().stream().filter(v -> v == option).count());
        }
        return row(counts);
    }

    String found(int place, int room, int piece) {
        placeAndRoom(place, room);
        needArgument(isOne(piece, 12));
        return row(viewOf(place, room).words.values().stream().filter(w -> !w.isGone && w.pieces.contains(piece))
                .map(w -> w.act.number).toList());
    }

    String order(int place, int room) {
        placeAndRoom(place, room);
        Seen seen = viewOf(place, room);
        return seen.played.stream().map(a -> a.number + (seen.voids.contains(a.number) ? "!" : ""))
                .collect(Collectors.joining(" "));
    }

    String summary(int place) {
        needIndex(isOne(place, 12));
        List<String> all = new ArrayList<>();
        for (int room = 0; room < 3; room++) {
            List<Word> words = notRead(place, room);
            if (!words.isEmpty()) {
                all.add(room + ":" + words.size() + words.stream().map(w -> w.act.member).distinct().sorted()
                        .map(m -> "@" + m).collect(Collectors.joining()));
            }
        }
        return String.join("; ", all);
    }

    static int set(Set<Integer> numbers) {
        return numbers.stream().mapToInt(n -> 1 << n).sum();
    }

    int ofRoom(int place, int room, int what) {
        placeAndRoom(place, room);
        needArgument(isOne(what, 10));
        Seen seen = viewOf(place, room);
        return switch (what) {
            case 0 -> set(seen.in);
            case 1 -> set(seen.called);
            case 2 -> set(seen.barred);
            case 3 -> seen.isPrivate ? 1 : 0;
            case 4 -> seen.many;
            case 5 -> seen.span;
            case 6 -> seen.words.size();
            case 7 -> seen.voids.size();
            case 8 -> heardIn(place, room).size();
            default -> notRead(place, room).size();
        };
    }

    int rights(int place, int room, int member) {
        placeAndRoom(place, room);
        needIndex(isOne(member, 6));
        return set(viewOf(place, room).rights.get(member));
    }

    String export(int place, int room) {
        placeAndRoom(place, room);
        Seen seen = viewOf(place, room);
        List<String> all = new ArrayList<>();
        for (Act act : seen.played) {
            int[] says = act.says.clone();
            int about = act.kind.equals("say") ? act.number : act.kind.equals("edit") ? says[0] : -1;
            if (seen.words.containsKey(about) && seen.words.get(about).isGone) {
                Arrays.fill(says, 1, 4, -1);
            }
            all.add(act.number + "," + KINDS.indexOf(act.kind) + "," + act.member + "," + act.time + ","
                    + says[0] + "," + says[1] + "," + says[2] + "," + says[3]);
        }
        return String.join(";", all);
    }

    String again(int place, int room) {
        placeAndRoom(place, room);
        Seen seen = new Seen(room);
        String text = export(place, room);
        for (String one : text.isEmpty() ? new String[0] : text.split(";")) {
            int[] numbers = Arrays.stream(one.split(",")).mapToInt(Integer::parseInt).toArray();
            Act act = new Act();
            act.number = numbers[0];
            act.kind = KINDS.get(numbers[1]);
            act.member = numbers[2];
            act.time = numbers[3];
            act.says = Arrays.copyOfRange(numbers, 4, 8);
            seen.play(act);
        }
        return seen.flat(seen);
    }

    // ---- what is asked else

    String way(int place) {
        needIndex(isOne(place, 12));
        return row(places.get(place).way);
    }

    String waiting(int place) {
        needIndex(isOne(place, 12));
        return row(places.get(place).waits);
    }

    int ofPlace(int place, int what) {
        needIndex(isOne(place, 12));
        needArgument(isOne(what, 6));
        Place p = places.get(place);
        return switch (what) {
            case 0 -> p.heard.size();
            case 1 -> p.way.size();
            case 2 -> p.waits.size();
            case 3 -> p.doubled;
            case 4 -> p.isOff ? 1 : 0;
            default -> members.get(place / 2).half;
        };
    }

    int ofAct(int act, int what) {
        needIndex(isOne(act, acts.size()));
        needArgument(isOne(what, 10));
        Act one = acts.get(act);
        boolean isText = one.kind.equals("say") || one.kind.equals("edit");
        return switch (what) {
            case 0 -> one.room;
            case 1 -> KINDS.indexOf(one.kind);
            case 2 -> one.member;
            case 3 -> one.time;
            case 4 -> one.height;
            case 5 -> one.causes.size();
            default -> what > 6 && isText ? -1 : one.says[what - 6];
        };
    }

    int house(int what) {
        needArgument(isOne(what, 8));
        return switch (what) {
            case 0 -> clock;
            case 1 -> acts.size();
            case 2 -> halves.get(0).size();
            case 3 -> halves.get(1).size();
            case 4 -> isParted ? 1 : 0;
            case 5 -> members.stream().mapToInt(m -> m.notices.size()).sum();
            case 6 -> botWords;
            default -> refused;
        };
    }

    int knock() {
        return ++refused;
    }
}
