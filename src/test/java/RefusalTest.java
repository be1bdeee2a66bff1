import java.util.List;
import java.util.Set;
import java.util.function.Supplier;

/**
 * The numbers below -1 (and NONE of a place that is OFF): which call tells which one, which goes
 * ahead if several are so, and that a call that tells one changes nothing.
 */
public final class RefusalTest {
    private static final int WORD = Court.WORD;
    private static final int POLL = Court.POLL;
    private static final int GONE_WORD = Court.GONE_WORD;
    private static final int GONE_POLL = Court.GONE_POLL;
    private static final int MADE = Court.MADE;
    private static final List<Court.Act> ACTS = Court.ACTS;
    private static final Set<String> ABOUT_WORDS = Set.of("edit", "back", "mark", "unmark", "pin", "unpin", "vote");

    private RefusalTest() {
    }

    public static void main(String[] args) {
        all("who has all rights lacks nothing", Court::sitting, 2, WORD, POLL, eachOf("made"));
        noRight();
        out();
        unheard();
        gone();
        slow();
        shut();
        full();
        off();
        unheardNumbers();
        unheardVotes();
        unheardOfAnotherRoom();
        unheardVoidWords();
        rightsOneByOne();
        theLastActOfAll();
        Check.finish("RefusalTest");
    }

    /** What each act answers, each in a house of its own; one that is refused changes nothing. */
    private static void all(String what, Supplier<Roomtalk> house, int place, int word, int poll, String due) {
        String[] each = due.split(" ");
        Check.same("as many as there are acts", ACTS.size(), each.length);
        for (int k = 0; k < each.length; k++) {
            Court.Act act = ACTS.get(k);
            Roomtalk x = house.get();
            String name = what + ": " + act.name();
            if (each[k].equals("made")) {
                Check.same(name, x.house(1), act.call().on(x, place, word, poll));
            } else {
                Check.refused(name, x, Integer.parseInt(each[k]), () -> act.call().on(x, place, word, poll));
            }
        }
    }

    private static String eachOf(Object answer) {
        return (answer + " ").repeat(ACTS.size()).trim();
    }

    /** Every act but enter tells it. */
    private static String allBut(String enter, int number) {
        return enter + (" " + number).repeat(ACTS.size() - 1);
    }

    private static void noRight() {
        all("no right", Court::sitting, 4, WORD, POLL,
                "made made -3 -3 -3 -3 made made -3 -3 -3 made -3 -3 -3 -3 -3 -3 -3 -3");
        all("no right goes ahead of gone", Court::sitting, 4, GONE_WORD, GONE_POLL,
                "made made -3 -3 -3 -3 -6 -6 -3 -3 -3 -6 -3 -3 -3 -3 -3 -3 -3 -3");
        all("no right goes ahead of slow", () -> slowCourt(true), 2, WORD, POLL,
                "made made -3 -3 made made made made made made -3 made made made made made made made made made");
    }

    private static Roomtalk leftBy(Roomtalk x, int place) {
        Check.same("leave", x.house(1), x.leave(place, 0));
        return x;
    }

    private static void out() {
        all("out", () -> leftBy(Court.sitting(), 2), 2, WORD, POLL, allBut("made", -2));
        all("out goes ahead of no right", () -> leftBy(Court.sitting(), 4), 4, WORD, POLL, allBut("made", -2));
        all("out goes ahead of gone", () -> leftBy(Court.sitting(), 2), 2, GONE_WORD, GONE_POLL, allBut("made", -2));
        all("out goes ahead of slow", () -> leftBy(slowCourt(false), 2), 2, WORD, POLL, allBut("made", -2));
        all("out by the view of that place alone", () -> leftBy(Court.sitting(), 2), 3, WORD, POLL,
                eachOf("made"));
    }

    private static void unheard() {
        String due = "made -2 -2 -5 -5 -5 -5 -5 -5 -5 -2 -5 -2 -2 -2 -2 -2 -2 -2 -2";
        all("unheard goes ahead of out", Court::sitting, 6, WORD, POLL, due);
        all("unheard goes ahead of out", Court::sitting, 6, GONE_WORD, GONE_POLL, due);
        all("no word goes ahead of out", () -> leftBy(Court.sitting(), 2), 2, 0, 0, due);
        all("no word goes ahead of no right", Court::sitting, 4, 0, 0,
                "made made -3 -5 -5 -5 -5 -5 -5 -5 -3 -5 -3 -3 -3 -3 -3 -3 -3 -3");
        all("no word goes ahead of slow", () -> slowCourt(false), 2, 0, 0,
                "made made -4 -5 -5 -5 -5 -5 -5 -5 -4 -5 made made made made made made made made");
    }

    private static void gone() {
        all("gone; it can be answered", Court::sitting, 2, GONE_WORD, GONE_POLL,
                "made made made made -6 -6 -6 -6 -6 -6 made -6 made made made made made made made made");
        all("gone, of one's own", Court::sitting, 0, GONE_WORD, GONE_POLL,
                "made made made made -6 -6 -6 -6 -6 -6 made -6 made made made made made made made made");
    }

    /** A bound of one word, which member 1 has said; it may have lost its right to speak since. */
    private static Roomtalk slowCourt(boolean isSilent) {
        Roomtalk x = Court.sitting();
        x.slow(0, 0, 1, 100);
        Towns.hearAll(x);
        Check.same("the one that is let", 15, Towns.word(x, 2, 0));
        if (isSilent) {
            x.right(0, 0, 1, 0, false);
            Towns.hearAll(x);
        }
        return x;
    }

    private static void slow() {
        all("slow", () -> slowCourt(false), 2, WORD, POLL,
                "made made -4 -4 made made made made made made -4 made made made made made made made made made");
        all("slow, to what is gone", () -> slowCourt(false), 2, GONE_WORD, GONE_POLL,
                "made made -4 -4 -6 -6 -6 -6 -6 -6 -4 -6 made made made made made made made made");
    }

    private static Roomtalk shutCourt(boolean isFull) {
        Roomtalk x = Court.sitting();
        x.lock(0, 0, true);
        if (isFull) {
            Towns.fill(x, 120);
        }
        return x;
    }

    private static void shut() {
        all("shut", () -> shutCourt(false), 6, WORD, POLL,
                "-7 -2 -2 -5 -5 -5 -5 -5 -5 -5 -2 -5 -2 -2 -2 -2 -2 -2 -2 -2");
        all("not the member with the number of the room", () -> leftBy(shutCourt(false), 0), 0, WORD, POLL,
                allBut("made", -2));
        all("nor one who is called", () -> calledAndOut(false), 2, WORD, POLL, allBut("made", -2));
        all("barred goes ahead of called", () -> calledAndOut(true), 2, WORD, POLL, allBut("-7", -2));
    }

    private static Roomtalk calledAndOut(boolean isBarred) {
        Roomtalk x = shutCourt(false);
        x.call(0, 0, 1);
        if (isBarred) {
            x.bar(0, 0, 1, true);
        }
        Towns.hearAll(x);
        if (!isBarred) {
            leftBy(x, 2);
        }
        return x;
    }

    private static void full() {
        Supplier<Roomtalk> full = () -> filled(Court.sitting());
        all("full", full, 2, WORD, POLL, eachOf(-8));
        all("full goes ahead of unheard", full, 6, WORD, POLL, eachOf(-8));
        all("full goes ahead of no such word", full, 2, 999, -1, eachOf(-8));
        all("full goes ahead of no right", full, 4, WORD, POLL, eachOf(-8));
        all("full goes ahead of gone", full, 2, GONE_WORD, GONE_POLL, eachOf(-8));
        all("full goes ahead of out", () -> filled(leftBy(Court.sitting(), 2)), 2, WORD, POLL, eachOf(-8));
        all("full goes ahead of slow", () -> filled(slowCourt(false)), 2, WORD, POLL, eachOf(-8));
        all("full goes ahead of shut", () -> shutCourt(true), 6, WORD, POLL, eachOf(-8));
    }

    private static Roomtalk filled(Roomtalk x) {
        for (int k = x.house(1); k < 120; k++) {
            Check.same("fill", k, x.mark(0, WORD, 0, true));
        }
        return x;
    }

    private static Roomtalk offAt(Roomtalk x, int place) {
        x.off(place, true);
        return x;
    }

    private static void off() {
        String none = eachOf(-1);
        all("off", () -> offAt(Court.sitting(), 2), 2, WORD, POLL, none);
        all("off goes ahead of unheard", () -> offAt(Court.sitting(), 6), 6, WORD, POLL, none);
        all("off goes ahead of no such word", () -> offAt(Court.sitting(), 2), 2, -1, 999, none);
        all("off goes ahead of out", () -> offAt(leftBy(Court.sitting(), 2), 2), 2, WORD, POLL, none);
        all("off goes ahead of no right", () -> offAt(Court.sitting(), 4), 4, WORD, POLL, none);
        all("off goes ahead of gone", () -> offAt(Court.sitting(), 2), 2, GONE_WORD, GONE_POLL, none);
        all("off goes ahead of slow", () -> offAt(slowCourt(false), 2), 2, WORD, POLL, none);
        all("off goes ahead of shut", () -> offAt(shutCourt(false), 6), 6, WORD, POLL, none);
        all("off goes ahead of full", () -> offAt(filled(Court.sitting()), 2), 2, WORD, POLL, none);
        all("the other place is on", () -> offAt(Court.sitting(), 2), 3, WORD, POLL,
                eachOf("made"));
    }

    /** At both ends of what there is, and what is there, but is no word. */
    private static void unheardNumbers() {
        Roomtalk x = Court.sitting();
        Check.same("a word that place 2 alone has heard", MADE, Towns.word(x, 2, 0));
        int[] none = {Integer.MIN_VALUE, -2, -1, 0, 1, 7, 12, 13, MADE, MADE + 1, 119, 120, 121, 128,
            Integer.MAX_VALUE};
        for (int word : none) {
            for (Court.Act act : ACTS) {
                if (ABOUT_WORDS.contains(act.name()) || act.name().equals("answer") && word != -1) {
                    Check.refused(act.name() + " of " + word, x, -5, () -> act.call().on(x, 0, word, word));
                }
            }
        }
        Check.same("an answer to NONE answers none", MADE + 1, x.say(0, 0, -1, 0, -1, -1));
        Check.same("it is heard there", MADE + 2, x.say(2, 0, MADE, 0, -1, -1));
    }

    private static void unheardVotes() {
        for (int options = 2; options <= 4; options++) {
            Roomtalk x = Towns.threeIn();
            int poll = x.poll(0, 0, options);
            for (int option = 0; option < options; option++) {
                Check.same("there is such an option", x.house(1), x.vote(0, poll, option));
            }
            for (int k = options; k < 4; k++) {
                int option = k;
                Check.refused("there is no such option", x, -5, () -> x.vote(0, poll, option));
            }
            int word = Towns.word(x, 0, 0);
            Check.refused("no poll", x, -5, () -> x.vote(0, word, 0));
            x.back(0, poll);
            x.back(0, word);
            Check.refused("no poll goes ahead of gone", x, -5, () -> x.vote(0, word, 0));
            Check.refused("gone", x, -6, () -> x.vote(0, poll, 1));
            for (int k = options; k < 4; k++) {
                int option = k;
                Check.refused("no such option goes ahead of gone", x, -5, () -> x.vote(0, poll, option));
            }
            x.leave(0, 0);
            Check.refused("no poll goes ahead of out", x, -5, () -> x.vote(0, word, 0));
            Check.refused("out goes ahead of gone", x, -2, () -> x.vote(0, poll, 1));
        }
    }

    private static void unheardOfAnotherRoom() {
        Roomtalk x = Towns.threeIn();
        Check.same("enter", 2, x.enter(0, 1));
        x.carryAll(0);
        Check.same("a word of room 0", 3, Towns.word(x, 0, 0));
        Check.refused("it is none of room 1", x, -5, () -> x.say(0, 1, 3, 0, -1, -1));
        Check.refused("nor of room 2, in which one is not", x, -5, () -> x.say(0, 2, 3, 0, -1, -1));
        Check.same("a word of room 1", 4, x.say(0, 1, -1, 0, -1, -1));
        Check.refused("it is none of room 0", x, -5, () -> x.say(0, 0, 4, 0, -1, -1));
        Check.same("of its own room", 5, x.say(0, 1, 4, 0, -1, -1));
        Check.same("of its own room", 6, x.say(0, 0, 3, 0, -1, -1));
        Check.same("what is about a word is done in its room", 7, x.mark(0, 4, 0, true));
        Check.same("room", 1, x.ofAct(7, 0));
        x.leave(0, 1);
        Check.refused("out of that room", x, -2, () -> x.mark(0, 4, 0, true));
        Check.same("in the other one", 9, x.mark(0, 3, 0, true));
    }

    /** A word of member 1 and a poll that are void wherever it was heard that its right was taken. */
    private static void unheardVoidWords() {
        Roomtalk x = Towns.threeIn();
        x.right(0, 0, 1, 0, false);
        Check.same("word", 3, Towns.word(x, 2, 0));
        Check.same("poll", 4, x.poll(2, 0, 2));
        Check.same("a word that answers it", 5, x.say(2, 0, 3, 0, -1, -1));
        Towns.hearAll(x);
        for (int place : new int[] {0, 2, 4}) {
            for (int word = 3; word <= 5; word++) {
                int one = word;
                Check.refused("answer", x, -5, () -> x.say(place, 0, one, 0, -1, -1));
                Check.refused("edit", x, -5, () -> x.edit(place, one, 0, -1));
                Check.refused("back", x, -5, () -> x.back(place, one));
                Check.refused("mark", x, -5, () -> x.mark(place, one, 0, true));
                Check.refused("unmark", x, -5, () -> x.mark(place, one, 0, false));
                Check.refused("pin", x, -5, () -> x.pin(place, one, true));
                Check.refused("vote", x, -5, () -> x.vote(place, one, 0));
            }
        }
    }

    /** Each of the six rights, the only one that member 2 has: what it lets, and nothing else. */
    private static void rightsOneByOne() {
        String[] due = {
            "made made made made -3 -3 made made -3 -3 made made -3 -3 -3 -3 -3 -3 -3 -3",
            "made made -3 -3 made -3 made made -3 -3 -3 made -3 -3 -3 -3 -3 -3 -3 -3",
            "made made -3 -3 -3 made made made -3 -3 -3 made -3 -3 -3 -3 -3 -3 -3 -3",
            "made made -3 -3 -3 -3 made made made made -3 made -3 -3 -3 -3 -3 -3 -3 -3",
            "made made -3 -3 -3 -3 made made -3 -3 -3 made -3 -3 made made made made made made",
            "made made -3 -3 -3 -3 made made -3 -3 -3 made -3 -3 -3 -3 -3 -3 -3 -3"};
        for (int right = 0; right < 6; right++) {
            int one = right;
            all("right " + right, () -> courtWith(one, one), 4, WORD, POLL, due[right]);
        }
        all("to give one needs the one that is given", () -> courtWith(3, 5), 4, WORD, POLL,
                "made made -3 -3 -3 -3 made made made made -3 made made made -3 -3 -3 -3 -3 -3");
        Roomtalk x = Court.sitting();
        int own = Towns.word(x, 2, 0);
        Towns.hearAll(x);
        for (int right = 0; right < 6; right++) {
            x.right(0, 0, 1, right, false);
        }
        Towns.hearAll(x);
        Check.same("none is left", 0, x.rights(2, 0, 1));
        Check.same("one's own word is edited without", x.house(1), x.edit(2, own, 0, -1));
        Check.refused("that of another is not", x, -3, () -> x.edit(2, WORD, 0, -1));
        Check.refused("that of another is not", x, -3, () -> x.back(2, WORD));
        Check.same("one's own word is taken back without", x.house(1), x.back(2, own));
    }

    private static Roomtalk courtWith(int right, int other) {
        Roomtalk x = Court.sitting();
        x.right(0, 0, 2, right, true);
        x.right(0, 0, 2, other, true);
        Towns.hearAll(x);
        return x;
    }

    /** The 120th act is let, of whatever kind; behind it nothing is. */
    private static void theLastActOfAll() {
        for (Court.Act act : ACTS) {
            Roomtalk x = Court.sitting();
            for (int k = MADE; k < 119; k++) {
                Check.same("fill", k, x.mark(2, WORD, 0, true));
            }
            Check.same("acts", 119, x.house(1));
            Check.same("the last one: " + act.name(), 119, act.call().on(x, 2, WORD, POLL));
            Check.same("acts", 120, x.house(1));
            Check.same("it has all causes that were heard", 119, x.ofAct(119, 5));
            Check.refused("behind the last one: " + act.name(), x, -8, () -> act.call().on(x, 2, WORD, POLL));
            x.carryAll(4);
            Check.same("all is heard in the end", 120, x.ofPlace(4, 0));
            Check.same("sound", true, x.isSound());
        }
    }
}
