import java.util.Arrays;
import java.util.List;
import java.util.function.Predicate;
import java.util.function.Supplier;

/**
 * Each argument of each call at both its ends: the last number that is let and the first that is
 * not, alone and together with all other arguments, so that the order of the exceptions is told, too.
 */
public final class LimitsTest {
    private static final Class<IndexOutOfBoundsException> INDEX = IndexOutOfBoundsException.class;
    private static final Class<IllegalArgumentException> ARGUMENT = IllegalArgumentException.class;
    private static final Class<IllegalStateException> STATE = IllegalStateException.class;

    private static final Range PLACE = new Range(INDEX, 0, 11);
    private static final Range ROOM = new Range(INDEX, 0, 2);
    private static final Range MEMBER = new Range(INDEX, 0, 5);
    private static final Range HALF = new Range(INDEX, 0, 1);
    private static final Range BOT = new Range(INDEX, 4, 5);
    private static final Range IS = new Range(null, 0, 1);
    private static final Range WORD = new Range(null, Integer.MIN_VALUE, Integer.MAX_VALUE);

    private static final List<Row> ROWS = List.of(
            new Row("tick", (x, n) -> x.tick(n[0]), number(0, 1000)),
            new Row("sit", (x, n) -> x.sit(n[0], n[1]), MEMBER, HALF),
            new Row("rejoin", (x, n) -> x.rejoin(n[0] == 1), IS),
            new Row("off", (x, n) -> x.off(n[0], n[1] == 1), PLACE, IS),
            new Row("carryAll", (x, n) -> x.carryAll(n[0]), PLACE),
            new Row("enter", (x, n) -> x.enter(n[0], n[1]), PLACE, ROOM),
            new Row("leave", (x, n) -> x.leave(n[0], n[1]), PLACE, ROOM),
            new Row("say", n -> n[4] == -1 && n[5] != -1, (x, n) -> x.say(n[0], n[1], n[2], n[3], n[4], n[5]),
                    PLACE, ROOM, WORD, number(0, 11), number(-1, 11), number(-1, 11)),
            new Row("edit", (x, n) -> x.edit(n[0], n[1], n[2], n[3]), PLACE, WORD, number(0, 11), number(-1, 11)),
            new Row("back", (x, n) -> x.back(n[0], n[1]), PLACE, WORD),
            new Row("mark", (x, n) -> x.mark(n[0], n[1], n[2], n[3] == 1), PLACE, WORD, number(0, 4), IS),
            new Row("pin", (x, n) -> x.pin(n[0], n[1], n[2] == 1), PLACE, WORD, IS),
            new Row("poll", (x, n) -> x.poll(n[0], n[1], n[2]), PLACE, ROOM, number(2, 4)),
            new Row("vote", (x, n) -> x.vote(n[0], n[1], n[2]), PLACE, WORD, number(0, 3)),
            new Row("right", (x, n) -> x.right(n[0], n[1], n[2], n[3], n[4] == 1),
                    PLACE, ROOM, MEMBER, number(0, 5), IS),
            new Row("call", (x, n) -> x.call(n[0], n[1], n[2]), PLACE, ROOM, MEMBER),
            new Row("bar", (x, n) -> x.bar(n[0], n[1], n[2], n[3] == 1), PLACE, ROOM, MEMBER, IS),
            new Row("slow", (x, n) -> x.slow(n[0], n[1], n[2], n[3]), PLACE, ROOM, number(0, 5), number(1, 100)),
            new Row("lock", (x, n) -> x.lock(n[0], n[1], n[2] == 1), PLACE, ROOM, IS),
            new Row("keyword", (x, n) -> x.keyword(n[0], n[1]), MEMBER, number(-1, 11)),
            new Row("rule", (x, n) -> x.rule(n[0], n[1], n[2]), BOT, number(0, 11), number(0, 11)),
            new Row("read", (x, n) -> x.read(n[0], n[1]), PLACE, ROOM),
            new Row("notices", (x, n) -> x.notices(n[0]), MEMBER),
            new Row("drawn", (x, n) -> x.drawn(n[0], n[1], n[2] == 1), PLACE, ROOM, IS),
            new Row("found", (x, n) -> x.found(n[0], n[1], n[2]), PLACE, ROOM, number(0, 11)),
            new Row("order", (x, n) -> x.order(n[0], n[1]), PLACE, ROOM),
            new Row("summary", (x, n) -> x.summary(n[0]), PLACE),
            new Row("ofRoom", (x, n) -> x.ofRoom(n[0], n[1], n[2]), PLACE, ROOM, number(0, 9)),
            new Row("rights", (x, n) -> x.rights(n[0], n[1], n[2]), PLACE, ROOM, MEMBER),
            new Row("export", (x, n) -> x.export(n[0], n[1]), PLACE, ROOM),
            new Row("again", (x, n) -> x.again(n[0], n[1]), PLACE, ROOM),
            new Row("way", (x, n) -> x.way(n[0]), PLACE),
            new Row("waiting", (x, n) -> x.waiting(n[0]), PLACE),
            new Row("ofPlace", (x, n) -> x.ofPlace(n[0], n[1]), PLACE, number(0, 5)),
            new Row("house", (x, n) -> x.house(n[0]), number(0, 7)));

    private interface Call {
        Object on(Roomtalk x, int[] n);
    }

    /** What is let, and what is thrown for all other numbers. */
    private record Range(Class<? extends RuntimeException> thrown, int low, int high) {
        boolean has(int number) {
            return number >= low && number <= high;
        }

        int[] numbers() {
            if (this == IS) {
                return new int[] {0, 1};
            }
            if (this == WORD) {
                return new int[] {low, -2, -1, 0, 119, 120, high};
            }
            return new int[] {low, high, low - 1, high + 1, Integer.MIN_VALUE, Integer.MAX_VALUE};
        }
    }

    private record Row(String name, Predicate<int[]> isWrongToo, Call call, Range... ranges) {
        Row(String name, Call call, Range... ranges) {
            this(name, n -> false, call, ranges);
        }

        /** Places, rooms and members go ahead of all other numbers. */
        Class<? extends RuntimeException> due(int[] n) {
            Class<? extends RuntimeException> due = isWrongToo.test(n) ? ARGUMENT : null;
            for (int k = 0; k < ranges.length; k++) {
                if (!ranges[k].has(n[k]) && due != INDEX) {
                    due = ranges[k].thrown;
                }
            }
            return due;
        }
    }

    private LimitsTest() {
    }

    public static void main(String[] args) {
        for (Row row : ROWS) {
            wrongNumbersThrowAndChangeNothing(row, new Roomtalk());
            wrongNumbersThrowAndChangeNothing(row, busy());
            wrongNumbersThrowAndChangeNothing(row, fullAndOff());
            rightNumbersAreLet(row, Roomtalk::new);
            rightNumbersAreLet(row, LimitsTest::busy);
            rightNumbersAreLet(row, LimitsTest::fullAndOff);
        }
        tickToTheEndOfTheClock();
        carryOfEachRow();
        wasOfEachMany();
        ofWordOfEachWord();
        ofAct();
        rulesOfEachBot();
        Check.finish("LimitsTest");
    }

    private static Range number(int low, int high) {
        return new Range(ARGUMENT, low, high);
    }

    /** Some of all: words, marks, what waits, is on the way, doubled, off, parted, marks of reading, notices. */
    private static Roomtalk busy() {
        Roomtalk x = Towns.threeIn();
        x.keyword(2, 1);
        x.rule(4, 1, 2);
        x.tick(5);
        x.say(0, 0, -1, 0, 7, -1);
        x.poll(0, 0, 3);
        x.carry(2, 0, true);
        x.carryAll(2);
        x.say(2, 0, 2, 1, -1, -1);
        x.say(2, 1, -1, 3, -1, -1);
        x.carryAll(0);
        x.vote(0, 3, 2);
        x.edit(0, 2, 4, -1);
        x.back(0, 4);
        x.carry(4, 2, true);
        x.read(0, 0);
        x.part();
        x.sit(1, 1);
        x.off(5, true);
        x.knock();
        return x;
    }

    private static Roomtalk fullAndOff() {
        Roomtalk x = busy();
        Towns.fill(x, 120);
        for (int place = 0; place < Towns.PLACES; place++) {
            x.off(place, true);
        }
        return x;
    }

    private static Class<?> thrownBy(Row row, Roomtalk x, int[] n) {
        try {
            row.call.on(x, n);
            return null;
        } catch (RuntimeException e) {
            return e.getClass();
        }
    }

    private static int combinations(Row row) {
        int many = 1;
        for (Range range : row.ranges) {
            many *= range.numbers().length;
        }
        return many;
    }

    private static int[] combination(Row row, int which) {
        int[] n = new int[row.ranges.length];
        int rest = which;
        for (int k = 0; k < n.length; k++) {
            int[] numbers = row.ranges[k].numbers();
            n[k] = numbers[rest % numbers.length];
            rest /= numbers.length;
        }
        return n;
    }

    private static void wrongNumbersThrowAndChangeNothing(Row row, Roomtalk x) {
        String before = State.of(x);
        for (int which = 0; which < combinations(row); which++) {
            int[] n = combination(row, which);
            if (row.due(n) != null) {
                Check.same(row.name + Arrays.toString(n), row.due(n), thrownBy(row, x, n));
            }
        }
        Check.same(row.name + " that throws changes nothing", true, before.equals(State.of(x)));
    }

    private static void rightNumbersAreLet(Row row, Supplier<Roomtalk> house) {
        for (int which = 0; which < combinations(row); which++) {
            int[] n = combination(row, which);
            if (row.due(n) == null) {
                Check.same(row.name + Arrays.toString(n), null, thrownBy(row, house.get(), n));
            }
        }
    }

    // ---- what can be told only of a house that is there

    private static void tickToTheEndOfTheClock() {
        Roomtalk x = new Roomtalk();
        for (int k = 1; k < 100; k++) {
            x.tick(1000);
        }
        Check.same("the greatest tick", 99999, x.tick(999));
        Check.thrown("one above the end", x, STATE, () -> x.tick(2));
        Check.thrown("the greatest tick, above the end", x, STATE, () -> x.tick(1000));
        Check.thrown("the argument goes ahead of the end", x, ARGUMENT, () -> x.tick(1001));
        Check.thrown("the argument goes ahead of the end", x, ARGUMENT, () -> x.tick(-1));
        Check.same("none", 99999, x.tick(0));
        Check.same("the end", 100000, x.tick(1));
        Check.same("none at the end", 100000, x.tick(0));
        Check.thrown("behind the end", x, STATE, () -> x.tick(1));
        Check.thrown("behind the end", x, STATE, () -> x.tick(1000));
        Check.same("an act at the end", 0, Towns.word(x, 0, 0));
        Check.same("its time", 100000, x.ofAct(0, 3));
        Check.same("the end, in the export", "0,2,0,100000,-1,0,-1,-1", x.export(0, 0));
    }

    private static void carryOfEachRow() {
        Roomtalk empty = new Roomtalk();
        for (int place = 0; place < Towns.PLACES; place++) {
            int at = place;
            for (int nth : new int[] {Integer.MIN_VALUE, -1, 0, 1, Integer.MAX_VALUE}) {
                Check.thrown("nothing there", empty, INDEX, () -> empty.carry(at, nth, false));
            }
            Check.same("nothing there", 0, empty.carryAll(place));
        }
        Roomtalk x = Towns.threeIn();
        for (int k = 2; k < 5; k++) {
            Towns.word(x, 0, 0);
        }
        for (boolean isTwice : new boolean[] {false, true}) {
            for (int nth : new int[] {Integer.MIN_VALUE, -1, 3, Integer.MAX_VALUE}) {
                Check.thrown("no such one in the row", x, INDEX, () -> x.carry(2, nth, isTwice));
            }
            for (int place : new int[] {Integer.MIN_VALUE, -1, 12, Integer.MAX_VALUE}) {
                Check.thrown("no such place", x, INDEX, () -> x.carry(place, 0, isTwice));
            }
        }
        Check.same("the last one of the row", 0, x.carry(2, 2, false));
        Check.thrown("the row is shorter", x, INDEX, () -> x.carry(2, 2, false));
        Check.same("the first one", 1, x.carry(2, 0, false));
        Check.same("the first one is the last one", 2, x.carry(2, 0, false));
        Check.thrown("the row is empty", x, INDEX, () -> x.carry(2, 0, true));
    }

    private static void wasOfEachMany() {
        Roomtalk x = Towns.threeIn();
        Towns.word(x, 0, 0);
        x.say(2, 1, -1, 1, -1, -1);
        for (int place = 0; place < Towns.PLACES; place++) {
            for (int room = 0; room < Towns.ROOMS; room++) {
                wasAtBothEnds(x, place, room);
            }
        }
        for (int wrong : new int[] {Integer.MIN_VALUE, -1, 12, Integer.MAX_VALUE}) {
            Check.thrown("no such place", x, INDEX, () -> x.was(wrong, 0, -1));
            Check.thrown("no such place", x, INDEX, () -> x.was(wrong, 9, 0));
        }
        for (int wrong : new int[] {Integer.MIN_VALUE, -1, 3, Integer.MAX_VALUE}) {
            Check.thrown("no such room", x, INDEX, () -> x.was(0, wrong, -1));
            Check.thrown("no such room", x, INDEX, () -> x.was(0, wrong, 99));
        }
    }

    private static void wasAtBothEnds(Roomtalk x, int place, int room) {
        int heard = x.ofRoom(place, room, 8);
        Check.same("behind none", "", x.was(place, room, 0));
        Check.same("behind all", x.drawn(place, room, false), x.was(place, room, heard));
        for (int many : new int[] {Integer.MIN_VALUE, -1, heard + 1, Integer.MAX_VALUE}) {
            Check.thrown("was " + many + " of " + heard, x, ARGUMENT, () -> x.was(place, room, many));
        }
    }

    /** Place 0 alone of its member has heard act 2, a word, act 3, a poll, and act 4, a word of member 1. */
    private static Roomtalk words() {
        Roomtalk x = Towns.threeIn();
        Towns.word(x, 0, 0);
        x.poll(0, 0, 4);
        Towns.word(x, 2, 0);
        x.right(0, 0, 1, 0, false);
        x.carryAll(0);
        Check.same("none is void", "0 1 2 4 3 5", x.order(0, 0));
        return x;
    }

    private static void ofWordOfEachWord() {
        Roomtalk x = words();
        for (int what : new int[] {0, 9}) {
            Check.same("what, at its ends", what == 0 ? 0 : 4, x.ofWord(0, 3, what));
        }
        for (int what : new int[] {Integer.MIN_VALUE, -1, 10, Integer.MAX_VALUE}) {
            Check.thrown("what " + what, x, ARGUMENT, () -> x.ofWord(0, 3, what));
            for (int place : new int[] {Integer.MIN_VALUE, -1, 12, Integer.MAX_VALUE}) {
                Check.thrown("the place goes ahead", x, INDEX, () -> x.ofWord(place, 3, what));
            }
            for (int word : new int[] {Integer.MIN_VALUE, -1, 0, 1, 5, 6, 119, 120, Integer.MAX_VALUE}) {
                Check.thrown("the word goes ahead", x, INDEX, () -> x.ofWord(0, word, what));
            }
        }
        for (int word : new int[] {Integer.MIN_VALUE, -1, 0, 1, 5, 6, 119, 120, 121, Integer.MAX_VALUE}) {
            noWord(x, 0, word);
        }
        for (int place = 1; place < Towns.PLACES; place++) {
            noWord(x, place, 2);
            noWord(x, place, 3);
        }
        for (int place : new int[] {Integer.MIN_VALUE, -1, 12, Integer.MAX_VALUE}) {
            noWord(x, place, 2);
            noWord(x, place, 3);
        }
        Check.same("a word", "hey", x.text(0, 2));
        Check.same("a poll", "0 0 0 0", x.tally(0, 3));
        Check.thrown("a word that is no poll", x, INDEX, () -> x.tally(0, 2));
        voidWords();
    }

    private static void noWord(Roomtalk x, int place, int word) {
        String what = "no word " + word + " at " + place;
        Check.thrown(what, x, INDEX, () -> x.ofWord(place, word, 0));
        Check.thrown(what, x, INDEX, () -> x.text(place, word));
        Check.thrown(what, x, INDEX, () -> x.tally(place, word));
    }

    private static void voidWords() {
        Roomtalk x = Towns.threeIn();
        x.right(0, 0, 1, 0, false);
        Towns.word(x, 2, 0);
        x.poll(2, 0, 2);
        Check.same("not void at its own place as yet", "hey", x.text(2, 3));
        Check.same("not void at its own place as yet", "0 0", x.tally(2, 4));
        Towns.hearAll(x);
        for (int place = 0; place < 6; place++) {
            Check.same("void", "0 1 2 3! 4!", x.order(place, 0));
            noWord(x, place, 3);
            noWord(x, place, 4);
        }
    }

    private static void ofAct() {
        Roomtalk x = words();
        for (int what : new int[] {0, 9}) {
            Check.same("the first act", what == 0 ? 0 : -1, x.ofAct(0, what));
            Check.same("the last act", what == 0 ? 0 : -1, x.ofAct(5, what));
        }
        for (int what : new int[] {Integer.MIN_VALUE, -1, 10, Integer.MAX_VALUE}) {
            Check.thrown("what " + what, x, ARGUMENT, () -> x.ofAct(0, what));
            Check.thrown("what " + what, x, ARGUMENT, () -> x.ofAct(5, what));
        }
        for (int act : new int[] {Integer.MIN_VALUE, -1, 6, 119, 120, 121, Integer.MAX_VALUE}) {
            for (int what : new int[] {Integer.MIN_VALUE, -1, 0, 9, 10, Integer.MAX_VALUE}) {
                Check.thrown("no act " + act, x, INDEX, () -> x.ofAct(act, what));
            }
        }
        Roomtalk empty = new Roomtalk();
        Check.thrown("no act", empty, INDEX, () -> empty.ofAct(0, 0));
        Roomtalk full = fullAndOff();
        Check.same("the last act of all", 2, full.ofAct(119, 1));
        Check.thrown("no act behind it", full, INDEX, () -> full.ofAct(120, 0));
    }

    private static void rulesOfEachBot() {
        for (int bot = 4; bot < 6; bot++) {
            int one = bot;
            Roomtalk x = new Roomtalk();
            Check.same("the first rule", 1, x.rule(bot, 0, 0));
            Check.same("the second rule", 2, x.rule(bot, 11, 11));
            Check.thrown("no such piece", x, ARGUMENT, () -> x.rule(one, 12, 0));
            Check.same("the third rule", 3, x.rule(bot, 0, 11));
            Check.thrown("no fourth rule", x, STATE, () -> x.rule(one, 0, 0));
            Check.thrown("the piece goes ahead of that", x, ARGUMENT, () -> x.rule(one, -1, 0));
            Check.thrown("the piece goes ahead of that", x, ARGUMENT, () -> x.rule(one, 0, 12));
            Check.thrown("the bot goes ahead of that", x, INDEX, () -> x.rule(one - 4, 12, 0));
            Check.thrown("no fourth rule as yet", x, STATE, () -> x.rule(one, 11, 11));
            Check.same("the other bot has its own", 1, x.rule(9 - bot, 0, 0));
        }
        Roomtalk y = new Roomtalk();
        for (int wrong : new int[] {Integer.MIN_VALUE, -1, 3, 6, Integer.MAX_VALUE}) {
            Check.thrown("no bot", y, INDEX, () -> y.rule(wrong, 0, 0));
        }
        Check.thrown("no such piece", y, ARGUMENT, () -> y.rule(4, 0, -1));
        Check.same("what threw gave no rule", 1, y.rule(4, 0, 0));
        Check.same("what threw gave no rule", 1, y.rule(5, 0, 0));
    }
}
