import java.util.function.Consumer;

/** What acts make as they are played in their order: parts 1 to 3 of the description, sentence by sentence. */
public final class PlayTest {
    private static final int WORD = Court.WORD;
    private static final int POLL = Court.POLL;
    private static final int MADE = Court.MADE;

    private PlayTest() {
    }

    public static void main(String[] args) {
        placesAreOfMembers();
        actsAreNumberedInTheWholeHouse();
        heightsAndCauses();
        causesOfThatRoomAlone();
        orderByHeightThenMemberThenNumber();
        roomsAtTheBeginning();
        oneWhoHasAllRightsFromTheBeginning();
        voidActs();
        voidOnlyBehindByOrder();
        voidByVoid();
        voidEntries();
        voidByTheBound();
        actsAboutVoidWords();
        answersToVoidWords();
        enterAndLeave();
        editsOfWords();
        editsOfPolls();
        backForGood();
        signsOfEachKind();
        pins();
        votesByOrder();
        rightsGivenAndTaken();
        barsAndCalls();
        boundsAndLocks();
        texts();
        boundsAtAllEnds();
        boundOfWordsSpreadInTime();
        boundOfSpansInWhichItIs();
        boundByOrder();
        boundOfThatRoomAndMember();
        Check.finish("PlayTest");
    }

    // ---- 1. Members, places, rooms, acts

    private static void placesAreOfMembers() {
        for (int place = 0; place < Towns.PLACES; place++) {
            Roomtalk x = new Roomtalk();
            int member = place / 2;
            int other = place % 2 == 0 ? place + 1 : place - 1;
            Check.same("it sits at half 0 at first", 0, x.ofPlace(place, 5));
            Check.same("enter", 0, x.enter(place, 0));
            Check.same("its member", member, x.ofAct(0, 2));
            Check.same("both its places", "0", x.way(place));
            Check.same("both its places", "0", x.way(other));
            Check.same("heard", 1, x.carryAll(place));
            Check.same("say", 1, Towns.word(x, place, 0));
            Check.same("its member", member, x.ofAct(1, 2));
            Check.same("heard at once", "", x.way(place));
            Check.same("heard at once", "0 1", x.order(place, 0));
            Check.same("not at the other place", "0 1", x.way(other));
        }
    }

    private static void actsAreNumberedInTheWholeHouse() {
        Roomtalk x = new Roomtalk();
        Check.same("the first one", 0, Towns.word(x, 0, 0));
        Check.same("in another room", 1, x.say(2, 1, -1, 0, -1, -1));
        Check.same("in another room", 2, x.say(4, 2, -1, 0, -1, -1));
        Check.refused("no number is used up", x, -2, () -> Towns.word(x, 2, 0));
        Check.same("the next one", 3, Towns.word(x, 1, 0));
        for (int act = 0; act < 4; act++) {
            Check.same("room", act % 3, x.ofAct(act, 0));
            Check.same("height without causes", 0, x.ofAct(act, 4));
            Check.same("no causes", 0, x.ofAct(act, 5));
            Check.same("time at first", 0, x.ofAct(act, 3));
        }
        Check.same("acts", 4, x.house(1));
    }

    private static void heightsAndCauses() {
        Roomtalk x = Towns.threeIn();
        for (int k = 2; k < 5; k++) {
            Check.same("say", k, Towns.word(x, 0, 0));
            Check.same("height", k, x.ofAct(k, 4));
        }
        Check.same("say, with none of these heard", 5, Towns.word(x, 2, 0));
        Check.same("height", 2, x.ofAct(5, 4));
        Check.same("causes", 2, x.ofAct(5, 5));
        Check.same("hear these", 3, x.carryAll(2));
        Check.same("say", 6, Towns.word(x, 2, 0));
        Check.same("1 more than the greatest, not than the last", 5, x.ofAct(6, 4));
        Check.same("all that was heard", 6, x.ofAct(6, 5));
    }

    private static void causesOfThatRoomAlone() {
        Roomtalk x = new Roomtalk();
        Check.same("enter room 1", 0, x.enter(0, 1));
        Towns.hearAll(x);
        Check.same("say in room 0", 1, Towns.word(x, 0, 0));
        Check.same("causes", 0, x.ofAct(1, 5));
        Check.same("say in room 1", 2, x.say(0, 1, -1, 0, -1, -1));
        Check.same("causes", 1, x.ofAct(2, 5));
        Check.same("height", 1, x.ofAct(2, 4));
        Check.same("enter room 1 again", 3, x.enter(0, 1));
        Check.same("causes", 2, x.ofAct(3, 5));
        Check.same("say in room 0", 4, Towns.word(x, 0, 0));
        Check.same("causes", 1, x.ofAct(4, 5));
        Check.same("height", 1, x.ofAct(4, 4));
    }

    private static void orderByHeightThenMemberThenNumber() {
        Roomtalk x = Towns.threeIn();
        Check.same("member 2", 2, Towns.word(x, 4, 0));
        Check.same("member 1", 3, Towns.word(x, 2, 1));
        Check.same("member 1, elsewhere", 4, Towns.word(x, 3, 2));
        Check.same("member 0", 5, Towns.word(x, 0, 3));
        Check.same("member 0, higher", 6, Towns.word(x, 0, 4));
        Towns.hearAll(x);
        for (int place = 0; place < 6; place++) {
            Check.same("order", "0 1 5 3 4 2 6", x.order(place, 0));
            Check.same("drawn", "5:0:boat / 3:1:rain / 4:1:bread / 2:2:hey / 6:0:yes", x.drawn(place, 0, false));
        }
        // Without causes, too: who enters at a half that has none of the others.
        Roomtalk z = new Roomtalk();
        z.sit(1, 1);
        z.part();
        Check.same("member 1", 0, z.say(2, 1, -1, 0, -1, -1));
        Check.same("member 0", 1, z.enter(0, 1));
        Check.same("height", 0, z.ofAct(0, 4) + z.ofAct(1, 4));
        Check.same("one to each half", 2, z.rejoin(false));
        Towns.hearAll(z);
        Check.same("order", "1 0", z.order(0, 1));
        Check.same("order", "1 0", z.order(3, 1));

        // Numbers, not texts: 9 is ahead of 10 and of 100.
        Roomtalk y = new Roomtalk();
        y.carryAll(1);
        for (int k = 0; k < 9; k++) {
            y.say(2, 1, -1, 0, -1, -1);
        }
        Check.same("say", 9, Towns.word(y, 0, 0));
        Check.same("say, not heard", 10, Towns.word(y, 1, 1));
        Towns.hearAll(y);
        Check.same("order", "9 10", y.order(0, 0));
        Check.same("order", "9 10", y.order(1, 0));
    }

    // ---- 2. What acts make

    private static void roomsAtTheBeginning() {
        for (int room = 0; room < Towns.ROOMS; room++) {
            for (int place = 0; place < Towns.PLACES; place++) {
                Roomtalk x = new Roomtalk();
                int here = room;
                int at = place;
                boolean isIn = place / 2 == room;
                if (isIn) {
                    Check.same("in", 0, x.say(place, room, -1, 0, -1, -1));
                } else {
                    Check.refused("out", x, -2, () -> x.say(at, here, -1, 0, -1, -1));
                }
                if (room == 2 && !isIn) {
                    Check.refused("room 2 alone is private", x, -7, () -> x.enter(at, here));
                } else {
                    Check.same("open", x.house(1), x.enter(place, room));
                }
            }
        }
    }

    private static void oneWhoHasAllRightsFromTheBeginning() {
        for (Court.Act act : Court.ACTS) {
            Roomtalk x = new Roomtalk();
            x.enter(2, 0);
            Towns.hearAll(x);
            Check.same("a word of another", 1, Towns.word(x, 2, 0));
            Check.same("a poll of another", 2, x.poll(2, 0, 2));
            Towns.hearAll(x);
            Check.same("all rights: " + act.name(), 3, act.call().on(x, 0, 1, 2));
            Towns.hearAll(x);
            Check.same("not void: " + act.name(), "0 1 2 3", x.order(2, 0));
            Check.same("the others speak alone", 1, x.rights(2, 0, 4));
        }
    }

    /** Act 14 is done at place 0 first, then each act at place 2, which has not heard of it. */
    private static void voidActs() {
        each("nothing is taken", x -> x.mark(0, WORD, 4, true), ", . . . . . . , . , . . . , . . , . . ,");
        each("one is in no more", x -> x.bar(0, 0, 1, true), "- ! ! ! ! ! ! ! ! ! ! ! ! ! ! ! ! ! ! !");
        each("SPEAK", x -> x.right(0, 0, 1, 0, false), ", . ! ! . . . , . , ! . . , . . , . . ,");
        each("EDIT", x -> x.right(0, 0, 1, 1, false), ", . . . ! . . , . , . . . , . . , . . ,");
        each("TAKE BACK", x -> x.right(0, 0, 1, 2, false), ", . . . . ! . , . , . . . , . . , . . ,");
        each("PIN, and so to give it", x -> x.right(0, 0, 1, 3, false), ", . . . . . . , ! ! . . ! ! . . , . . ,");
        each("RULE", x -> x.right(0, 0, 1, 4, false), ", . . . . . . , . , . . . , ! ! ! ! ! !");
        each("GIVE", x -> x.right(0, 0, 1, 5, false), ", . . . . . . , . , . . ! ! . . , . . ,");
        each("the word", x -> x.back(0, WORD), ", . . . ! ! ! ! ! ! . . . , . . , . . ,");
        each("the poll", x -> x.back(0, POLL), ", . . . . . . , . , . ! . , . . , . . ,");
    }

    /** Due: "." it makes something, "," it makes nothing but is not void, "!" it is void, "-" it is not made. */
    private static void each(String taken, Consumer<Roomtalk> take, String due) {
        String[] marks = due.split(" ");
        Roomtalk without = Court.sitting();
        take.accept(without);
        Towns.hearAll(without);
        for (int k = 0; k < marks.length; k++) {
            Court.Act act = Court.ACTS.get(k);
            String name = taken + ": " + act.name();
            Roomtalk x = Court.sitting();
            take.accept(x);
            if (marks[k].equals("-")) {
                Check.refused(name, x, -7, () -> act.call().on(x, 2, WORD, POLL));
                continue;
            }
            Check.same(name, MADE + 1, act.call().on(x, 2, WORD, POLL));
            Towns.hearAll(x);
            for (int place : new int[] {0, 1, 2, 4, 5}) {
                String[] order = x.order(place, 0).split(" ");
                Check.same(name, marks[k].equals("!") ? "15!" : "15", order[order.length - 1]);
                Check.same(name + " makes something", marks[k].equals("."),
                        !madeOf(x, place).equals(madeOf(without, place)));
                Check.same(name + ", void ones", marks[k].equals("!") ? 1 : 0, x.ofRoom(place, 0, 7));
            }
        }
    }

    /** What acts made of room 0. */
    private static String madeOf(Roomtalk x, int place) {
        StringBuilder all = new StringBuilder(x.drawn(place, 0, true));
        for (int what = 0; what < 7; what++) {
            all.append(' ').append(x.ofRoom(place, 0, what));
        }
        for (int member = 0; member < Towns.MEMBERS; member++) {
            all.append(' ').append(x.rights(place, 0, member));
        }
        return all.append(' ').append(x.tally(place, POLL)).toString();
    }

    private static void voidOnlyBehindByOrder() {
        for (Court.Act act : Court.ACTS) {
            Roomtalk x = Court.sitting();
            x.right(0, 0, 2, 4, true);
            Towns.hearAll(x);
            Check.same("a greater member, though done first", 15, x.bar(4, 0, 1, true));
            if (!act.name().equals("enter")) {
                check(x, act, 16, "14 16 15");
            }
            Roomtalk y = Court.sitting();
            y.mark(0, WORD, 4, true);
            Check.same("a greater height, though done first", 15, y.bar(0, 0, 1, true));
            if (!act.name().equals("enter")) {
                check(y, act, 16, "14 16 15");
            }
            Roomtalk z = Court.sitting();
            Check.same("the same member, a smaller number", 14, z.leave(3, 0));
            check(z, act, 15, act.name().equals("enter") ? "14 15" : "14 15!");
            Roomtalk u = Court.sitting();
            Check.same("the same member, a greater number", 14, act.call().on(u, 2, WORD, POLL));
            Check.same("leave elsewhere", 15, u.leave(3, 0));
            Towns.hearAll(u);
            Check.same(act.name(), act.name().equals("leave") ? "14 15!" : "14 15", tail(u, 2));
        }
    }

    private static void check(Roomtalk x, Court.Act act, int number, String due) {
        Check.same(act.name(), number, act.call().on(x, 2, WORD, POLL));
        Towns.hearAll(x);
        Check.same(act.name(), due, tail(x, due.split(" ").length));
    }

    /** The last so many acts, by the order at place 5. */
    private static String tail(Roomtalk x, int many) {
        String[] order = x.order(5, 0).split(" ");
        StringBuilder all = new StringBuilder();
        for (int k = order.length - many; k < order.length; k++) {
            all.append(all.length() == 0 ? "" : " ").append(order[k]);
        }
        return all.toString();
    }

    private static void voidByVoid() {
        Roomtalk x = Court.sitting();
        Check.same("member 1 gives PIN", 14, x.right(2, 0, 2, 3, true));
        x.carryAll(4);
        Check.same("member 2 has it", 15, x.pin(4, WORD, true));
        Check.same("member 1 may give no more, ahead of that", 16, x.right(0, 0, 1, 5, false));
        Check.same("pinned as yet", 1, x.ofWord(4, WORD, 4));
        Towns.hearAll(x);
        Check.same("both are void", "16 14! 15!", tail(x, 3));
        Check.same("two void ones", 2, x.ofRoom(4, 0, 7));
        Check.same("not pinned", 0, x.ofWord(4, WORD, 4));
    }

    private static void voidEntries() {
        Check.same("barred", "0 1 2 3!", entryOf(x -> x.bar(0, 0, 3, true)));
        Check.same("private", "0 1 2 3!", entryOf(x -> x.lock(0, 0, true)));
        Check.same("of another", "0 1 2 3", entryOf(x -> x.bar(0, 0, 4, true)));
        Check.same("private, but called", "0 1 2 3 4", entryOf(x -> {
            x.call(0, 0, 3);
            x.sit(0, 1);
            x.sit(0, 0);
            x.lock(0, 0, true);
        }));
    }

    /** Member 3 enters at half 1, as at half 0 is done what there is not heard of. */
    private static String entryOf(Consumer<Roomtalk> done) {
        Roomtalk x = Towns.threeIn();
        x.sit(3, 1);
        x.part();
        done.accept(x);
        int entry = x.house(1);
        Check.same("enter", entry, x.enter(6, 0));
        x.rejoin(false);
        Towns.hearAll(x);
        String order = x.order(0, 0);
        Check.same("in", order.contains("!") ? 7 : 15, x.ofRoom(0, 0, 0));
        return order;
    }

    private static void voidByTheBound() {
        Roomtalk x = Court.sitting();
        Check.same("a word", 14, Towns.word(x, 2, 0));
        Towns.hearAll(x);
        Check.same("the bound", 15, x.slow(0, 0, 1, 10));
        Check.same("a word, where the bound is not heard", 16, Towns.word(x, 2, 0));
        Check.same("a poll", 17, x.poll(2, 0, 2));
        x.tick(10);
        Check.same("a word behind the span", 18, Towns.word(x, 2, 0));
        Towns.hearAll(x);
        Check.same("void", "14 15 16! 17! 18", tail(x, 5));
    }

    private static void actsAboutVoidWords() {
        Roomtalk x = Court.sitting();
        Check.same("SPEAK is taken", 14, x.right(0, 0, 1, 0, false));
        Check.same("a word that is void by that", 15, Towns.word(x, 2, 0));
        int[] made = {x.edit(2, 15, 1, -1), x.mark(2, 15, 0, true), x.mark(2, 15, 0, false), x.pin(2, 15, true),
            x.pin(2, 15, false), x.back(2, 15), x.poll(2, 0, 2), x.vote(2, 22, 0), x.leave(2, 0)};
        Check.same("all are made", 16, made[0]);
        Check.same("all are made", 24, made[8]);
        Towns.hearAll(x);
        Check.same("void", "14 15! 16! 17! 18! 19! 20! 21! 22! 23! 24", tail(x, 11));
    }

    private static void answersToVoidWords() {
        Roomtalk x = Court.sitting();
        x.right(0, 0, 2, 0, true);
        Towns.hearAll(x);
        Check.same("a word", 15, x.say(2, 0, WORD, 1, -1, -1));
        x.carryAll(4);
        Check.same("an answer to it", 16, x.say(4, 0, 15, 2, -1, -1));
        Check.same("an answer to that", 17, x.say(4, 0, 16, 3, -1, -1));
        Check.same("its SPEAK is taken", 18, x.right(0, 0, 1, 0, false));
        Check.same("not void as yet",
                "8:0:hey / >15:1:rain / >>16:2:bread / >>>17:2:boat / 9:0:poll4 / 10:0:- / 11:0:-",
                x.drawn(4, 0, true));
        Check.same("below", 3, x.ofWord(4, WORD, 7));
        Towns.hearAll(x);
        Check.same("the answer is not void", "14 18 15! 16 17", tail(x, 5));
        Check.same("it stands outside", "8:0:hey / 9:0:poll4 / 10:0:- / 11:0:- / 16:2:bread / >17:2:boat",
                x.drawn(4, 0, true));
        Check.same("it still tells what it answers", 15, x.ofWord(4, 16, 1));
        Check.same("void answers are none", 0, x.ofWord(4, WORD, 6));
        Check.same("nor is what is below them", 0, x.ofWord(4, WORD, 7));
        Check.same("it can be answered itself", 19, x.say(0, 0, 16, 0, -1, -1));
    }

    private static void enterAndLeave() {
        Roomtalk x = Towns.threeIn();
        Check.same("enter, as one is in", 2, x.enter(2, 0));
        Towns.hearAll(x);
        Check.same("not void", "0 1 2", x.order(2, 0));
        Check.same("in", 7, x.ofRoom(2, 0, 0));
        Check.same("leave", 3, x.leave(2, 0));
        Check.same("not in any more", 5, x.ofRoom(2, 0, 0));
        Check.refused("nor twice", x, -2, () -> x.leave(2, 0));
        Check.same("enter", 4, x.enter(2, 0));
        Check.refused("not heard as yet", x, -2, () -> x.leave(2, 0));
        x.carryAll(2);
        Check.same("in again", 7, x.ofRoom(2, 0, 0));
        Check.same("rights are kept", 1, x.rights(2, 0, 1));
        Check.same("leave", 5, x.leave(0, 0));
        Check.same("enter", 6, x.enter(0, 0));
        x.carryAll(0);
        Check.same("rights are kept", 63, x.rights(0, 0, 0));
    }

    private static void editsOfWords() {
        Roomtalk x = Towns.threeIn();
        Check.same("say", 2, x.say(0, 0, -1, 0, 1, 2));
        Check.same("say", 3, Towns.word(x, 0, 0));
        Check.same("edit to the same text", 4, x.edit(0, 3, 0, -1));
        Check.same("edited", "2:0:hey rain bread / 3:0:hey*", x.drawn(0, 0, false));
        Check.same("edit", 5, x.edit(0, 2, 11, 0));
        Check.same("the third piece is no more", "2:0:@5 hey* / 3:0:hey*", x.drawn(0, 0, false));
        Check.same("edit again", 6, x.edit(0, 2, 0, -1));
        Check.same("the second piece is no more", "2:0:hey* / 3:0:hey*", x.drawn(0, 0, false));
        Towns.hearAll(x);
        Check.same("edit at place 0", 7, x.edit(0, 2, 1, -1));
        Check.same("edit at place 1", 8, x.edit(1, 2, 2, -1));
        Towns.hearAll(x);
        Check.same("the last one by order counts", "bread", x.text(0, 2));
        Check.same("the last one by order counts", "bread", x.text(1, 2));
    }

    private static void editsOfPolls() {
        Roomtalk x = Court.sitting();
        Check.same("one's own", MADE, x.edit(0, POLL, 0, -1));
        Check.same("that of another", MADE + 1, x.edit(2, POLL, 0, 1));
        Towns.hearAll(x);
        Check.same("not void", "13 14 15", tail(x, 3));
        Check.same("text", "poll4", x.text(4, POLL));
        Check.same("not edited", 0, x.ofWord(4, POLL, 3));
        Check.same("options", 4, x.ofWord(4, POLL, 9));
        Check.same("not found", "", x.found(4, 0, 1));
        Check.refused("without the right it is not let", x, -3, () -> x.edit(4, POLL, 0, -1));
        Check.same("RIGHT to edit taken", MADE + 2, x.right(0, 0, 1, 1, false));
        Check.same("edit", MADE + 3, x.edit(2, POLL, 0, -1));
        Towns.hearAll(x);
        Check.same("without the right it is void", "16 17!", tail(x, 2));
    }

    private static void backForGood() {
        Roomtalk x = Towns.threeIn();
        Check.same("say", 2, Towns.word(x, 2, 0));
        x.mark(2, 2, 1, true);
        x.edit(2, 2, 1, -1);
        Towns.hearAll(x);
        x.pin(0, 2, true);
        Towns.hearAll(x);
        Check.same("drawn", "2:1:rain*+1x1^", x.drawn(4, 0, false));
        Check.same("back", 6, x.back(2, 2));
        Check.same("edit, where that is not heard", 7, x.edit(0, 2, 2, -1));
        Check.same("unpin, where that is not heard", 8, x.pin(0, 2, false));
        Check.same("edited there", "2:1:bread*+1x1", x.drawn(0, 0, false));
        Towns.hearAll(x);
        Check.same("what stands ahead by order counts", "0 1 2 3 4 5 7 6 8!", x.order(4, 0));
        for (int place = 0; place < 6; place++) {
            Check.same("taken back", "2:1:-", x.drawn(place, 0, false));
            Check.same("taken back", "-", x.text(place, 2));
        }
        Check.refused("for good", x, -6, () -> x.back(2, 2));
    }

    private static void signsOfEachKind() {
        Roomtalk x = Towns.allIn();
        int word = Towns.word(x, 0, 0);
        Towns.hearAll(x);
        Check.same("taken away, though none is there", 6, x.mark(0, word, 0, false));
        Check.same("none", "5:0:hey", x.drawn(0, 0, false));
        for (int sign = 0; sign < 5; sign++) {
            for (int member = 0; member <= sign; member++) {
                x.mark(2 * member, word, sign, true);
                x.mark(2 * member, word, sign, true);
            }
        }
        Towns.hearAll(x);
        Check.same("signs", "5:0:hey+0x1+1x2+2x3+3x4+4x5", x.drawn(10, 0, false));
        Check.same("of each member counted", 15, x.ofWord(10, word, 5));
        x.mark(10, word, 4, true);
        x.mark(0, word, 0, false);
        Towns.hearAll(x);
        Check.same("signs", "5:0:hey+1x2+2x3+3x4+4x6", x.drawn(10, 0, false));
        Check.same("of each member counted", 15, x.ofWord(10, word, 5));
        x.mark(10, word, 1, false);
        Check.same("what one did not put is not taken away", "5:0:hey+1x2+2x3+3x4+4x6", x.drawn(10, 0, false));
        Check.same("void ones", 0, x.ofRoom(10, 0, 7));
    }

    private static void pins() {
        Roomtalk x = Court.sitting();
        Check.same("unpin, though not pinned", 14, x.pin(0, WORD, false));
        Check.same("pin", 15, x.pin(0, WORD, true));
        Check.same("pin again", 16, x.pin(0, WORD, true));
        Check.same("pin a poll", 17, x.pin(0, POLL, true));
        Towns.hearAll(x);
        Check.same("drawn", "8:0:hey^ / 9:0:poll4^ / 10:0:- / 11:0:-", x.drawn(4, 0, false));
        Check.same("another unpins", 18, x.pin(2, WORD, false));
        Towns.hearAll(x);
        Check.same("drawn", "8:0:hey / 9:0:poll4^ / 10:0:- / 11:0:-", x.drawn(4, 0, false));
    }

    private static void votesByOrder() {
        Roomtalk x = Court.sitting();
        Check.same("one more height", 14, x.mark(2, WORD, 0, true));
        Check.same("vote for the first option", 15, x.vote(2, POLL, 0));
        Check.same("vote for the last option, elsewhere", 16, x.vote(3, POLL, 3));
        Check.same("tally", "1 0 0 0", x.tally(2, POLL));
        Check.same("tally", "0 0 0 1", x.tally(3, POLL));
        Towns.hearAll(x);
        for (int place = 0; place < 6; place++) {
            Check.same("the last one by order counts", "1 0 0 0", x.tally(place, POLL));
        }
        Check.same("each member has one", 17, x.vote(4, POLL, 3));
        Check.same("the same again", 18, x.vote(4, POLL, 3));
        Check.same("tally", "1 0 0 1", x.tally(4, POLL));
    }

    private static void rightsGivenAndTaken() {
        Roomtalk x = Towns.threeIn();
        for (int right = 0; right < 6; right++) {
            x.right(0, 0, 5, right, true);
            Check.same("one who is not in, too", (2 << right) - 1, x.rights(0, 0, 5));
        }
        for (int right = 0; right < 6; right++) {
            x.right(0, 0, 5, right, false);
            Check.same("no more", 63 - ((2 << right) - 1), x.rights(0, 0, 5));
            x.right(0, 0, 5, right, false);
            Check.same("as it is already", 63 - ((2 << right) - 1), x.rights(0, 0, 5));
        }
        Check.same("the others are left alone", 63, x.rights(0, 0, 0));
        Check.same("the others are left alone", 1, x.rights(0, 0, 4));
        Check.same("another room is", 1, x.rights(0, 1, 5));
        Check.same("oneself, though one has it", x.house(1), x.right(0, 0, 0, 2, true));
        Check.same("oneself", x.house(1), x.right(0, 0, 0, 2, false));
        Check.refused("one has it not oneself any more", x, -3, () -> x.right(0, 0, 0, 2, true));
        Check.same("rights", 59, x.rights(0, 0, 0));
    }

    private static void barsAndCalls() {
        Roomtalk x = Towns.threeIn();
        for (int member = 0; member < Towns.MEMBERS; member++) {
            Check.same("call", x.house(1), x.call(0, 0, member));
            Check.same("called", (2 << member) - 1, x.ofRoom(0, 0, 1));
        }
        Check.same("not in by that", 7, x.ofRoom(0, 0, 0));
        for (int member = 5; member > 0; member--) {
            Check.same("bar", x.house(1), x.bar(0, 0, member, true));
            Check.same("barred", 63 - ((1 << member) - 1), x.ofRoom(0, 0, 2));
            Check.same("in", 7 & (1 << member) - 1, x.ofRoom(0, 0, 0));
        }
        Check.same("called all the same", 63, x.ofRoom(0, 0, 1));
        Check.refused("but barred", x, -7, () -> x.enter(4, 0));
        Check.same("call of who is barred", x.house(1), x.call(0, 0, 2));
        Check.same("barred all the same", 62, x.ofRoom(0, 0, 2));
        Check.same("no more barred", x.house(1), x.bar(0, 0, 2, false));
        Check.same("again", x.house(1), x.bar(0, 0, 2, false));
        Check.same("barred", 58, x.ofRoom(0, 0, 2));
        Check.same("not in by that", 1, x.ofRoom(0, 0, 0));
        Check.same("enter", x.house(1), x.enter(4, 0));
        Check.same("oneself", x.house(1), x.bar(0, 0, 0, true));
        Check.same("nobody is in here", 0, x.ofRoom(0, 0, 0));
        Check.refused("nor the member with the number of the room", x, -7, () -> x.enter(0, 0));
    }

    private static void boundsAndLocks() {
        Roomtalk x = Towns.threeIn();
        for (int many = 0; many <= 5; many++) {
            for (int span : new int[] {1, 100}) {
                Check.same("slow", x.house(1), x.slow(0, 0, many, span));
                Check.same("many", many, x.ofRoom(0, 0, 4));
                Check.same("span", many == 0 ? 0 : span, x.ofRoom(0, 0, 5));
            }
        }
        for (int k = 0; k < 4; k++) {
            boolean is = k < 2;
            Check.same("lock, also if it is so", x.house(1), x.lock(0, 0, is));
            Check.same("private", is ? 1 : 0, x.ofRoom(0, 0, 3));
        }
        Check.same("another room", 1, x.ofRoom(0, 2, 3));
        Roomtalk y = new Roomtalk();
        Check.refused("room 2 is private", y, -7, () -> y.enter(0, 2));
        Check.same("no more", 0, y.lock(4, 2, false));
        Check.same("enter", 1, y.enter(0, 2));
    }

    // ---- 3. Words and bounds

    private static void texts() {
        String[] pieces = "hey rain bread boat yes no @0 @1 @2 @3 @4 @5".split(" ");
        Roomtalk x = new Roomtalk();
        for (int a = 0; a < 12; a++) {
            int b = 11 - a;
            int c = (a + 5) % 12;
            Check.same("one piece", pieces[a], x.text(0, Towns.word(x, 0, a)));
            Check.same("two pieces", pieces[a] + " " + pieces[b], x.text(0, x.say(0, 0, -1, a, b, -1)));
            Check.same("three pieces", pieces[a] + " " + pieces[b] + " " + pieces[c],
                    x.text(0, x.say(0, 0, -1, a, b, c)));
            x.edit(0, 0, b, -1);
            Check.same("edited", pieces[b], x.text(0, 0));
            x.edit(0, 0, b, c);
            Check.same("edited", pieces[b] + " " + pieces[c], x.text(0, 0));
        }
        for (int options = 2; options <= 4; options++) {
            Check.same("a poll", "poll" + options, x.text(0, x.poll(0, 0, options)));
        }
    }

    /** So many words are let in a span, at its last tick none as yet, and behind it so many again. */
    private static void boundsAtAllEnds() {
        for (int many = 1; many <= 5; many++) {
            for (int span : new int[] {1, 2, 3, 50, 99, 100}) {
                Roomtalk x = new Roomtalk();
                Check.same("slow", 0, x.slow(0, 0, many, span));
                sayAsManyAsAreLet(x, many);
                Check.same("the last tick of the span", span - 1, x.tick(span - 1));
                sayAsManyAsAreLet(x, 0);
                Check.same("behind the span", span, x.tick(1));
                sayAsManyAsAreLet(x, many);
                Check.same("void ones", 0, x.ofRoom(0, 0, 7));
            }
        }
    }

    private static void sayAsManyAsAreLet(Roomtalk x, int many) {
        for (int k = 0; k < many; k++) {
            Check.same("let", x.house(1), k % 2 == 0 ? Towns.word(x, 0, 0) : x.poll(0, 0, 2));
        }
        Check.refused("slow", x, -4, () -> Towns.word(x, 0, 0));
        Check.refused("slow", x, -4, () -> x.poll(0, 0, 2));
    }

    private static void boundOfWordsSpreadInTime() {
        Roomtalk x = new Roomtalk();
        x.slow(0, 0, 2, 10);
        Check.same("at 0", 1, Towns.word(x, 0, 0));
        x.tick(9);
        Check.same("at 9", 2, Towns.word(x, 0, 0));
        Check.refused("three at 0 to 9", x, -4, () -> Towns.word(x, 0, 0));
        x.tick(1);
        Check.same("at 10", 3, Towns.word(x, 0, 0));
        Check.refused("three at 9 to 18", x, -4, () -> Towns.word(x, 0, 0));
        x.tick(8);
        Check.refused("three at 9 to 18", x, -4, () -> Towns.word(x, 0, 0));
        x.tick(1);
        Check.same("at 19", 4, Towns.word(x, 0, 0));
        Check.refused("three at 10 to 19", x, -4, () -> Towns.word(x, 0, 0));
        Check.same("taken back", 5, x.back(0, 4));
        Check.refused("it counts all the same", x, -4, () -> Towns.word(x, 0, 0));
        Check.same("another bound", 6, x.slow(0, 0, 3, 10));
        Check.same("one more", 7, Towns.word(x, 0, 0));
        Check.refused("no more", x, -4, () -> Towns.word(x, 0, 0));
        Check.same("no bound", 8, x.slow(0, 0, 0, 1));
        Check.same("any", 9, Towns.word(x, 0, 0));
    }

    private static void boundOfSpansInWhichItIs() {
        Roomtalk x = new Roomtalk();
        for (int k = 0; k < 3; k++) {
            Check.same("no bound", k, Towns.word(x, 0, 0));
        }
        Check.same("a bound that these break", 3, x.slow(0, 0, 1, 5));
        Check.same("they are not void by that", 0, x.ofRoom(0, 0, 7));
        for (int k = 0; k < 5; k++) {
            Check.refused("a span in which these are", x, -4, () -> Towns.word(x, 0, 0));
            x.tick(1);
        }
        Check.same("they are in no span in which it is", 4, Towns.word(x, 0, 0));
        Check.refused("slow", x, -4, () -> Towns.word(x, 0, 0));
    }

    private static void boundByOrder() {
        for (int span : new int[] {1, 2, 50, 100}) {
            Check.same("the last tick of the span", "0 1 3 2!", laterThoughAhead(span, span - 1));
            Check.same("behind the span", "0 1 3 2", laterThoughAhead(span, span));
        }
        Check.same("one before, one behind, in one span", "0 1 2 4 3!", between(5, 4));
        Check.same("one before, one behind, in no span", "0 1 2 4 3", between(5, 5));
        Check.same("one before, one behind, in one span", "0 1 2 4 3!", between(0, 9));
        Check.same("one before, one behind, in no span", "0 1 2 4 3", between(0, 10));
        Check.same("one before, one behind, in one span", "0 1 2 4 3!", between(9, 0));

        Roomtalk x = new Roomtalk();
        x.slow(0, 0, 1, 5);
        x.carryAll(1);
        Check.same("say", 1, Towns.word(x, 0, 0));
        Check.same("say elsewhere", 2, Towns.word(x, 1, 0));
        Towns.hearAll(x);
        Check.same("what stands behind by order does not count", "0 1 2!", x.order(0, 0));
        x.tick(4);
        Check.refused("the one that is not void counts", x, -4, () -> Towns.word(x, 0, 0));
        x.tick(1);
        Check.same("behind its span", 3, Towns.word(x, 0, 0));
    }

    /** Act 3 stands ahead of act 2 of the same member, and comes so many ticks later. */
    private static String laterThoughAhead(int span, int ticks) {
        Roomtalk x = new Roomtalk();
        x.slow(0, 0, 1, span);
        x.carryAll(1);
        x.lock(0, 0, true);
        Check.same("say", 2, Towns.word(x, 0, 0));
        x.tick(ticks);
        Check.same("say elsewhere", 3, Towns.word(x, 1, 1));
        Towns.hearAll(x);
        Check.same("alike", x.order(0, 0), x.order(1, 0));
        return x.order(0, 0);
    }

    /** Two are let in ten ticks: act 3 comes so long behind act 1, and behind that act 4, which stands ahead of 3. */
    private static String between(int before, int behind) {
        Roomtalk x = new Roomtalk();
        x.slow(0, 0, 2, 10);
        Check.same("say", 1, Towns.word(x, 0, 0));
        x.carryAll(1);
        x.lock(0, 0, true);
        x.tick(before);
        Check.same("say", 3, Towns.word(x, 0, 0));
        x.tick(behind);
        Check.same("say elsewhere", 4, Towns.word(x, 1, 0));
        Towns.hearAll(x);
        return x.order(0, 0);
    }

    private static void boundOfThatRoomAndMember() {
        Roomtalk x = Towns.threeIn();
        x.enter(0, 1);
        x.slow(0, 0, 1, 100);
        Towns.hearAll(x);
        for (int k = 0; k < 3; k++) {
            Check.same("another room has no bound", x.house(1), x.say(0, 1, -1, 0, -1, -1));
        }
        for (int member = 0; member < 3; member++) {
            int place = 2 * member;
            Check.same("one of each member", x.house(1), Towns.word(x, place, 0));
            Check.refused("no more", x, -4, () -> Towns.word(x, place, 0));
            Towns.hearAll(x);
        }
        Check.refused("at one's other place, too", x, -4, () -> Towns.word(x, 3, 0));
        Check.same("void ones", 0, x.ofRoom(0, 0, 7));
    }
}
