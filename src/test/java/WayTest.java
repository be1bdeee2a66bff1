/** On the way: part 4 of the description, sentence by sentence. */
public final class WayTest {
    private WayTest() {
    }

    public static void main(String[] args) {
        nothingOnTheWay();
        toThoseWhoSitThere();
        notToWhoIsOff();
        notToWhoIsNotIn();
        toWhoWasInAheadOfIt();
        leavingComesToTheOtherPlace();
        catchUpRoomByRoomByOrder();
        nothingTwice();
        whatWasPutFirstIsFirst();
        heardAlreadyIsDoubled();
        waitingAlreadyIsDoubled();
        waitingIsHeardByNumber();
        waitingOfAnotherRoomStays();
        allTurnedRound();
        carryAllThatIsThereNow();
        offMakesNothingAndGetsNothing();
        onAgainCatchesUp();
        offAsTheHouseIsJoined();
        partAndPartAgain();
        sitWithNothingToTake();
        sitTakesWhatWasHeard();
        sitTakesNoMoreThanWasHeard();
        sitAgainTakesNothing();
        sitMakesThatHalfCatchUp();
        sitBringsWhoIsIn();
        sitAndRejoinOfAFullHouse();
        rejoinWithNothingToJoin();
        rejoinOfBoth();
        enterByTheHalf();
        enterWithTheFullRow();
        causesComeAhead();
        Check.finish("WayTest");
    }

    private static void ways(String what, Roomtalk x, String due) {
        StringBuilder all = new StringBuilder();
        for (int place = 0; place < Towns.PLACES; place++) {
            all.append(place == 0 ? "" : " / ").append(x.way(place));
        }
        Check.same(what, due, all.toString());
    }

    private static void nothingOnTheWay() {
        Roomtalk x = new Roomtalk();
        ways("nothing", x, " /  /  /  /  /  /  /  /  /  /  / ");
        for (int place = 0; place < Towns.PLACES; place++) {
            int at = place;
            Check.refused("nothing arrives", x, 0, () -> x.carryAll(at));
            Check.same("nothing waits", "", x.waiting(place));
            Check.same("nothing is heard", 0, x.ofPlace(place, 0));
        }
    }

    private static void toThoseWhoSitThere() {
        Roomtalk x = Towns.threeIn();
        x.sit(1, 1);
        Check.same("not parted", 2, Towns.word(x, 0, 0));
        ways("to both halves", x, " / 2 / 2 / 2 / 2 / 2 /  /  /  /  /  / ");
        Towns.hearAll(x);
        x.part();
        Check.same("parted", 3, Towns.word(x, 0, 0));
        ways("to that half alone", x, " / 3 /  /  / 3 / 3 /  /  /  /  /  / ");
        Check.same("half 0", 4, x.house(2));
        Check.same("half 1", 3, x.house(3));
        Check.same("parted", 4, Towns.word(x, 2, 0));
        ways("to the other half alone", x, " / 3 /  / 4 / 3 / 3 /  /  /  /  /  / ");
        Check.same("half 0", 4, x.house(2));
        Check.same("half 1", 4, x.house(3));
    }

    private static void notToWhoIsOff() {
        Roomtalk x = Towns.threeIn();
        x.off(1, true);
        x.off(2, true);
        x.off(5, true);
        Check.same("say", 2, Towns.word(x, 0, 0));
        ways("not to who is off", x, " /  /  / 2 / 2 /  /  /  /  /  /  / ");
    }

    private static void notToWhoIsNotIn() {
        Roomtalk x = new Roomtalk();
        Check.same("say in room 1", 0, x.say(3, 1, -1, 0, -1, -1));
        ways("to the other place of that member alone", x, " /  / 0 /  /  /  /  /  /  /  /  / ");
        Check.same("enter", 1, x.enter(9, 1));
        ways("who enters catches up with all", x, " /  / 0 1 / 1 /  /  /  /  / 0 1 / 0 1 /  / ");
    }

    private static void toWhoWasInAheadOfIt() {
        Roomtalk x = Towns.threeIn();
        Check.same("leave", 2, x.leave(2, 0));
        ways("to one's other place, too", x, "2 / 2 /  / 2 / 2 / 2 /  /  /  /  /  / ");
        Check.same("say", 3, Towns.word(x, 0, 0));
        ways("but no more", x, "2 / 2 3 /  / 2 / 2 3 / 2 3 /  /  /  /  /  / ");
        Check.same("enter again", 4, x.enter(2, 0));
        ways("what is lacking comes by order", x, "2 4 / 2 3 4 / 3 4 / 2 3 4 / 2 3 4 / 2 3 4 /  /  /  /  /  / ");
        Roomtalk y = Towns.threeIn();
        Check.same("bar", 2, y.bar(0, 0, 1, true));
        ways("to who is barred by it, too", y, " / 2 / 2 / 2 / 2 / 2 /  /  /  /  /  / ");
        Check.same("say", 3, Towns.word(y, 0, 0));
        ways("but no more", y, " / 2 3 / 2 / 2 / 2 3 / 2 3 /  /  /  /  /  / ");
        Check.same("say, as one was in by that place", 4, Towns.word(y, 2, 0));
        ways("not to one's own place", y, "4 / 2 3 4 / 2 / 2 / 2 3 4 / 2 3 4 /  /  /  /  /  / ");
    }

    private static void leavingComesToTheOtherPlace() {
        for (int place = 0; place < Towns.PLACES; place++) {
            Roomtalk x = Towns.allIn();
            int other = place % 2 == 0 ? place + 1 : place - 1;
            Check.same("leave", 5, x.leave(place, 0));
            Check.same("the other place", "5", x.way(other));
            Check.same("not one's own", "", x.way(place));
        }
    }

    private static void catchUpRoomByRoomByOrder() {
        Roomtalk x = new Roomtalk();
        x.enter(2, 0);
        x.enter(0, 1);
        x.enter(4, 0);
        x.enter(4, 1);
        Towns.hearAll(x);
        x.off(2, true);
        Check.same("room 1", 4, x.say(0, 1, -1, 0, -1, -1));
        Check.same("room 0, member 2", 5, Towns.word(x, 4, 0));
        Check.same("room 1, member 2", 6, x.say(4, 1, -1, 0, -1, -1));
        Check.same("room 0, member 0", 7, Towns.word(x, 0, 0));
        Check.same("room 2, in which it is not", 8, x.say(4, 2, -1, 0, -1, -1));
        Check.same("room 0, higher", 9, Towns.word(x, 0, 0));
        Check.same("as they were made", "4 5 6 7 9", x.way(3));
        Check.same("on again", 1, x.off(2, false));
        Check.same("room by room, by order", "7 5 9 4 6", x.way(2));
        Check.same("heard all the same", 5, x.carryAll(2));
    }

    private static void nothingTwice() {
        Roomtalk x = Towns.threeIn();
        for (int k = 2; k < 6; k++) {
            Towns.word(x, 0, 0);
        }
        x.carry(2, 0, true);
        x.carry(2, 2, false);
        Check.same("way", "2 3 5", x.way(2));
        Check.same("waiting", "4", x.waiting(2));
        x.off(2, true);
        String before = State.of(x);
        x.off(2, false);
        x.off(2, true);
        Check.same("nothing is put there that was heard, is on the way or waits", true, before.equals(State.of(x)));
        x.off(2, false);
        x.sit(1, 1);
        x.sit(1, 0);
        x.part();
        x.rejoin(false);
        Check.same("way", "2 3 5", x.way(2));
        Check.same("waiting", "4", x.waiting(2));
        Check.same("one more", 6, Towns.word(x, 0, 0));
        Check.same("way", "2 3 5 6", x.way(2));
    }

    private static void whatWasPutFirstIsFirst() {
        Roomtalk x = Towns.threeIn();
        Check.same("member 2", 2, Towns.word(x, 4, 0));
        Check.same("member 1", 3, Towns.word(x, 2, 0));
        Check.same("member 0", 4, Towns.word(x, 0, 0));
        Check.same("as they were put", "2 3 4", x.way(1));
        Check.same("taken out of the middle", 1, x.carry(1, 1, false));
        Check.same("the others stay", "2 4", x.way(1));
        Check.same("one is put behind", 5, Towns.word(x, 2, 0));
        Check.same("behind", "2 4 5", x.way(1));
        Check.same("was", "3:1:hey", x.was(1, 0, 3));
    }

    private static void heardAlreadyIsDoubled() {
        Roomtalk x = Towns.threeIn();
        Towns.word(x, 0, 0);
        Towns.word(x, 0, 0);
        Check.same("heard", 1, x.carry(2, 0, true));
        Check.same("not doubled as yet", 0, x.ofPlace(2, 3));
        Check.same("it stays where it was", "2 3", x.way(2));
        String heard = x.export(2, 0) + x.was(2, 0, 3);
        for (int k = 1; k <= 3; k++) {
            Check.same("nothing comes of it", 0, x.carry(2, 0, true));
            Check.same("doubled", k, x.ofPlace(2, 3));
            Check.same("it stays", "2 3", x.way(2));
        }
        Check.same("nothing comes of it", heard, x.export(2, 0) + x.was(2, 0, 3));
        Check.same("the last time", 0, x.carry(2, 0, false));
        Check.same("doubled", 4, x.ofPlace(2, 3));
        Check.same("gone from the way", "3", x.way(2));
        Check.same("of a place", 0, x.ofPlace(3, 3));
        Check.same("heard at the other place", 2, x.carryAll(3));
        Check.same("that is not doubled", 0, x.ofPlace(3, 3));
    }

    private static void waitingAlreadyIsDoubled() {
        Roomtalk x = Towns.threeIn();
        for (int k = 2; k < 5; k++) {
            Towns.word(x, 0, 0);
        }
        Check.same("it waits", 0, x.carry(2, 2, true));
        Check.same("doubled", 0, x.ofPlace(2, 3));
        Check.same("waiting", "4", x.waiting(2));
        Check.same("it waits already", 0, x.carry(2, 2, true));
        Check.same("doubled", 1, x.ofPlace(2, 3));
        Check.same("once", "4", x.waiting(2));
        Check.same("once", 1, x.ofPlace(2, 2));
        Check.same("way", "2 3 4", x.way(2));
        Check.same("all", 3, x.carryAll(2));
        Check.same("doubled", 2, x.ofPlace(2, 3));
        Check.same("way", "", x.way(2));
        Check.same("waiting", "", x.waiting(2));
        Check.same("each once", 5, x.ofPlace(2, 0));
    }

    private static void waitingIsHeardByNumber() {
        Roomtalk x = Towns.threeIn();
        Check.same("what both others lack", 2, Towns.word(x, 0, 0));
        Towns.hearAll(x);
        Check.same("member 2", 3, Towns.word(x, 4, 3));
        Check.same("member 1", 4, Towns.word(x, 2, 4));
        Check.same("member 1, higher", 5, Towns.word(x, 2, 5));
        Towns.hearAll(x);
        Roomtalk y = Towns.threeIn();
        Check.same("off", 0, y.off(1, true));
        Check.same("the same, not heard at place 1", 2, Towns.word(y, 0, 0));
        Towns.hearAll(y);
        Towns.word(y, 4, 3);
        Towns.word(y, 2, 4);
        Towns.word(y, 2, 5);
        y.off(1, false);
        Check.same("by order", "2 4 3 5", y.way(1));
        Check.same("it waits", 0, y.carry(1, 3, false));
        Check.same("it waits", 0, y.carry(1, 1, false));
        Check.same("it waits", 0, y.carry(1, 1, false));
        Check.same("by number", "3 4 5", y.waiting(1));
        Check.same("all", 4, y.carry(1, 0, false));
        Check.same("first what came", "2:0:hey", y.was(1, 0, 3));
        Check.same("then the smallest number, not the first by order", "2:0:hey / 3:2:boat", y.was(1, 0, 4));
        Check.same("then the next one", "2:0:hey / 4:1:yes / 3:2:boat", y.was(1, 0, 5));
        Check.same("as it is elsewhere", x.drawn(1, 0, false), y.drawn(1, 0, false));
    }

    private static void waitingOfAnotherRoomStays() {
        Roomtalk x = new Roomtalk();
        x.enter(0, 1);
        Towns.hearAll(x);
        Check.same("room 1", 1, x.say(2, 1, -1, 0, -1, -1));
        Check.same("room 1", 2, x.say(2, 1, -1, 0, -1, -1));
        Check.same("it waits", 0, x.carry(0, 1, false));
        Check.same("room 0", 3, Towns.word(x, 1, 0));
        Check.same("way", "1 3", x.way(0));
        Check.same("what is heard of room 0 is no cause", 1, x.carry(0, 1, false));
        Check.same("it still waits", "2", x.waiting(0));
        Check.same("both", 2, x.carry(0, 0, false));
        Check.same("nothing waits", "", x.waiting(0));
    }

    /** The whole row of a full house arrives in the order turned round. */
    private static void allTurnedRound() {
        Roomtalk x = new Roomtalk();
        Towns.fill(x, 120);
        Check.same("all", 120, x.ofPlace(1, 1));
        for (int k = 119; k > 0; k--) {
            Check.same("it waits", 0, x.carry(1, k, false));
            Check.same("so many wait", 120 - k, x.ofPlace(1, 2));
        }
        Check.same("none was heard", 0, x.ofPlace(1, 0));
        Check.same("then all are", 120, x.carry(1, 0, false));
        Check.same("none waits", 0, x.ofPlace(1, 2));
        Check.same("none is on the way", 0, x.ofPlace(1, 1));
        Check.same("alike", x.order(0, 0), x.order(1, 0));
        Check.same("sound", true, x.isSound());
    }

    private static void carryAllThatIsThereNow() {
        Roomtalk x = Towns.botIn();
        x.rule(4, 0, 1);
        x.rule(4, 1, 2);
        Towns.word(x, 0, 0);
        Towns.word(x, 0, 1);
        Check.same("the answers are left aside", 2, x.carryAll(8));
        Check.same("they are on the way to the other place", "1 2 3 4", x.way(9));
        Check.same("they are on the way to the other place", 4, x.carryAll(9));
        Check.same("nothing is there any more", 0, x.carryAll(8));
        Check.same("acts", 5, x.house(1));
    }

    private static void offMakesNothingAndGetsNothing() {
        Roomtalk x = Towns.threeIn();
        Check.same("say", 2, Towns.word(x, 0, 0));
        Check.same("say", 3, Towns.word(x, 0, 0));
        Check.same("it was on", 0, x.off(2, true));
        Check.refused("it was off", x, 1, () -> x.off(2, true));
        Check.same("off", 1, x.ofPlace(2, 4));
        Check.same("what is there stays", "2 3", x.way(2));
        Check.refused("it makes nothing", x, -1, () -> Towns.word(x, 2, 0));
        Check.same("say", 4, Towns.word(x, 0, 0));
        Check.same("nothing is put there", "2 3", x.way(2));
        Check.refused("off again, it catches up with nothing", x, 1, () -> x.off(2, true));
        Check.same("it may arrive, and wait", 0, x.carry(2, 1, true));
        Check.same("it may arrive, and be doubled", 0, x.carry(2, 1, false));
        Check.same("doubled", 1, x.ofPlace(2, 3));
        Check.same("it may arrive, and be heard", 2, x.carryAll(2));
        Check.same("heard", 4, x.ofPlace(2, 0));
        Check.same("read", 2, x.read(2, 0));
        Check.same("the other place is on", 5, Towns.word(x, 3, 0));
        Check.same("it is not put there either", "", x.way(2));
    }

    private static void onAgainCatchesUp() {
        Roomtalk x = Towns.threeIn();
        Check.refused("it was on", x, 0, () -> x.off(2, false));
        x.off(2, true);
        x.off(7, true);
        Towns.word(x, 0, 0);
        Check.same("enter", 3, x.enter(0, 1));
        x.carryAll(0);
        x.say(0, 1, -1, 0, -1, -1);
        Check.same("on again", 1, x.off(2, false));
        Check.same("on", 0, x.ofPlace(2, 4));
        Check.same("room by room", "2 3 4", x.way(2));
        Check.same("not in, so nothing comes", 1, x.off(7, false));
        Check.same("not in, so nothing comes", "", x.way(7));
        x.off(2, true);
        Check.same("on again", 1, x.off(2, false));
        Check.same("nothing comes twice", "2 3 4", x.way(2));
        x.part();
        x.off(2, true);
        x.sit(1, 1);
        Check.same("at the other half", 5, Towns.word(x, 0, 0));
        x.off(2, false);
        Check.same("nothing comes of the other half", "2 3 4", x.way(2));
    }

    private static void offAsTheHouseIsJoined() {
        Roomtalk x = Towns.threeIn();
        x.sit(1, 1);
        x.part();
        Check.same("say", 2, Towns.word(x, 0, 0));
        x.off(2, true);
        Check.same("rejoin", 1, x.rejoin(false));
        Check.same("off", "", x.way(2));
        Check.same("on", "2", x.way(3));
        x.sit(1, 0);
        Check.same("off", "", x.way(2));
        Check.same("on again", 1, x.off(2, false));
        Check.same("then it catches up", "2", x.way(2));
    }

    private static void partAndPartAgain() {
        Roomtalk x = Towns.threeIn();
        Check.same("part", 1, x.part());
        Check.same("parted", 1, x.house(4));
        Check.refused("parted already", x, 0, x::part);
        Check.same("rejoin", 0, x.rejoin(false));
        Check.same("not parted", 0, x.house(4));
        Check.same("part again", 1, x.part());
    }

    private static void sitWithNothingToTake() {
        Roomtalk x = Towns.threeIn();
        for (int member = 0; member < Towns.MEMBERS; member++) {
            int one = member;
            Check.refused("it sits there", x, 0, () -> x.sit(one, 0));
            Check.same("not parted, so both have all", 0, x.sit(member, 1));
            Check.same("half", 1, x.ofPlace(2 * member, 5));
            Check.same("half", 1, x.ofPlace(2 * member + 1, 5));
            Check.refused("it sits there", x, 0, () -> x.sit(one, 1));
        }
        Roomtalk y = Towns.threeIn();
        y.part();
        Check.same("say", 2, Towns.word(y, 0, 0));
        Check.same("sit, with nothing heard of it", 0, y.sit(3, 1));
        Check.same("half 1", 2, y.house(3));
        Check.refused("it sits there already, and nothing is done", y, 0, () -> y.sit(0, 0));
        Check.same("half 1", 2, y.house(3));
    }

    private static void sitTakesWhatWasHeard() {
        Roomtalk x = Towns.threeIn();
        x.sit(1, 1);
        x.part();
        Check.same("say", 2, Towns.word(x, 0, 0));
        Check.same("say at the other place", 3, Towns.word(x, 1, 0));
        Check.same("say in another room", 4, x.say(4, 2, -1, 0, -1, -1));
        Check.same("what both its places heard", 2, x.sit(0, 1));
        Check.same("half 1", 4, x.house(3));
        Check.same("half 0", 5, x.house(2));
        Check.same("those who sit there catch up", "2 3", x.way(2));
        Check.same("those who sit there catch up", "2 3", x.way(3));
        Check.same("what it heard of all rooms", 1, x.sit(2, 1));
        Check.same("half 1", 5, x.house(3));
        Check.same("not in that room", "2 3", x.way(2));
        Check.same("back, with nothing new", 0, x.sit(0, 0));
        x.off(2, true);
        Check.same("at half 1", 5, Towns.word(x, 3, 0));
        x.off(3, true);
        Check.same("what off places heard, too", 1, x.sit(1, 0));
        Check.same("half 0", 6, x.house(2));
        Check.same("it comes to who sits there", "3 5", x.way(0));
    }

    private static void sitTakesNoMoreThanWasHeard() {
        Roomtalk x = Towns.threeIn();
        x.part();
        Check.same("say", 2, Towns.word(x, 0, 0));
        Check.same("say", 3, Towns.word(x, 0, 0));
        x.carry(2, 1, false);
        Check.same("one waits", "3", x.waiting(2));
        Check.same("one is on the way", "2", x.way(2));
        Check.same("neither was heard", 0, x.sit(1, 1));
        Check.same("half 1", 2, x.house(3));
        Check.same("the one arrives", 2, x.carry(2, 0, false));
        Check.same("that alone brings nothing to the half", 2, x.house(3));
        Check.same("sit back", 0, x.sit(1, 0));
        Check.same("now both were heard", 2, x.sit(1, 1));
        Check.same("half 1", 4, x.house(3));
    }

    private static void sitAgainTakesNothing() {
        Roomtalk x = Towns.threeIn();
        x.part();
        Check.same("say", 2, Towns.word(x, 0, 0));
        Check.same("sit, with nothing heard of it", 0, x.sit(1, 1));
        Check.same("it arrives there", 1, x.carryAll(2));
        Check.refused("it sits there already, and brings nothing", x, 0, () -> x.sit(1, 1));
        Check.same("half 1", 2, x.house(3));
    }

    private static void sitMakesThatHalfCatchUp() {
        Roomtalk x = Towns.threeIn();
        x.sit(2, 1);
        x.part();
        Check.same("say at half 0", 2, Towns.word(x, 0, 0));
        Check.same("say at half 1", 3, Towns.word(x, 4, 0));
        x.off(5, true);
        Check.same("sit", 1, x.sit(0, 1));
        ways("that half alone, and who sits there now", x, "3 / 2 3 / 2 / 2 / 2 / 3 /  /  /  /  /  / ");
        Check.same("member 1, which sits at half 0, heard neither", 0, x.sit(1, 1));
        ways("it catches up there", x, "3 / 2 3 / 2 3 / 2 3 / 2 / 3 /  /  /  /  /  / ");
    }

    private static void sitBringsWhoIsIn() {
        Roomtalk x = Towns.threeIn();
        x.part();
        Check.same("enter at half 0", 2, x.enter(6, 0));
        x.carryAll(0);
        Check.same("say at half 0", 3, Towns.word(x, 0, 0));
        x.carry(6, 3, false);
        Check.same("sit, with nothing heard", 0, x.sit(3, 1));
        Check.same("say at half 0", 4, Towns.word(x, 0, 0));
        Check.same("not in by half 1", "0 1 2", x.way(6));
        Check.same("three come along", 3, x.sit(0, 1));
        Check.same("in by half 1 then", "0 1 2 4", x.way(6));
        Check.same("and so for what comes there", 5, Towns.word(x, 0, 0));
        Check.same("way", "0 1 2 4 5", x.way(6));
        Roomtalk y = Towns.threeIn();
        y.sit(1, 1);
        y.part();
        Check.same("bar at half 0", 2, y.bar(0, 0, 1, true));
        Check.same("it comes along", 1, y.sit(0, 1));
        Check.same("in by half 1 no more", "", y.way(2));
        Check.same("and so for what comes there", 3, Towns.word(y, 0, 0));
        Check.same("way", "", y.way(2));
    }

    private static void sitAndRejoinOfAFullHouse() {
        for (int acts : new int[] {63, 64, 65, 119, 120}) {
            Roomtalk x = new Roomtalk();
            x.part();
            Towns.fill(x, acts);
            Check.same("half 1", 0, x.house(3));
            Check.same("all come along", acts, x.sit(0, 1));
            Check.same("half 1", acts, x.house(3));
            Check.same("half 0", acts, x.house(2));
            Check.same("nothing more", 0, x.rejoin(false));
            Roomtalk y = new Roomtalk();
            y.part();
            Towns.fill(y, acts);
            Check.same("all come to half 1", acts, y.rejoin(true));
            Check.same("half 1", acts, y.house(3));
            Check.same("half 0", acts, y.house(2));
            Check.same("sound", true, y.isSound());
        }
    }

    private static void rejoinWithNothingToJoin() {
        for (boolean isSecond : new boolean[] {false, true}) {
            Roomtalk x = Towns.threeIn();
            Check.refused("not parted", x, -1, () -> x.rejoin(isSecond));
            x.part();
            Check.same("nothing came", 0, x.rejoin(isSecond));
            Check.refused("not parted", x, -1, () -> x.rejoin(isSecond));
            Roomtalk empty = new Roomtalk();
            Check.refused("not parted", empty, -1, () -> empty.rejoin(isSecond));
            empty.part();
            Check.same("nothing came", 0, empty.rejoin(isSecond));
        }
    }

    private static Roomtalk apart() {
        Roomtalk x = Towns.threeIn();
        x.sit(1, 1);
        x.part();
        Towns.word(x, 0, 0);
        Towns.word(x, 0, 1);
        Towns.word(x, 2, 2);
        x.say(2, 1, -1, 3, -1, -1);
        x.off(5, true);
        return x;
    }

    private static void rejoinOfBoth() {
        Roomtalk x = apart();
        Roomtalk y = apart();
        ways("parted", x, " / 2 3 /  / 4 5 / 2 3 / 2 3 /  /  /  /  /  / ");
        Check.same("two to half 1, two to half 0", 4, x.rejoin(false));
        Check.same("two to half 0, two to half 1", 4, y.rejoin(true));
        Check.same("it is the same", State.of(x), State.of(y));
        Check.same("half 0", 6, x.house(2));
        Check.same("half 1", 6, x.house(3));
        ways("all that are not off catch up", x, "4 / 2 3 4 / 2 3 / 4 5 2 3 / 2 3 4 / 2 3 /  /  /  /  /  / ");
        Towns.hearAll(x);
        for (int place = 0; place < 5; place++) {
            Check.same("alike", "2:0:hey / 4:1:bread / 3:0:rain", x.drawn(place, 0, false));
        }
        Check.same("only to half 1", 1, joinedOf(0));
        Check.same("only to half 0", 1, joinedOf(2));
    }

    private static int joinedOf(int place) {
        Roomtalk x = Towns.threeIn();
        x.sit(1, 1);
        x.part();
        Towns.word(x, place, 0);
        return x.rejoin(false);
    }

    private static void enterByTheHalf() {
        Roomtalk x = Towns.threeIn();
        x.sit(3, 1);
        x.part();
        Check.same("say at half 0", 2, Towns.word(x, 0, 0));
        Check.same("enter at half 1", 3, x.enter(6, 0));
        Check.same("causes that this half has", 2, x.ofAct(3, 5));
        Check.same("height", 2, x.ofAct(3, 4));
        ways("it is not heard at once", x, " / 2 / 2 / 2 / 2 / 2 / 0 1 3 / 0 1 3 /  /  /  / ");
        Check.refused("so one is out as yet", x, -2, () -> Towns.word(x, 6, 0));
        Check.same("enter once more", 4, x.enter(7, 0));
        Check.same("causes", 3, x.ofAct(4, 5));
        ways("to both places", x, " / 2 / 2 / 2 / 2 / 2 / 0 1 3 4 / 0 1 3 4 /  /  /  / ");
        Check.same("heard", 4, x.carryAll(6));
        Check.same("in", 5, Towns.word(x, 6, 0));
    }

    private static void enterWithTheFullRow() {
        Roomtalk x = new Roomtalk();
        Towns.fill(x, 119);
        Check.same("the last act", 119, x.enter(2, 0));
        Check.same("its causes", 119, x.ofAct(119, 5));
        Check.same("its height", 119, x.ofAct(119, 4));
        Check.same("all are on the way", 120, x.ofPlace(2, 1));
        Check.same("the last one of the row", 0, x.carry(2, 119, true));
        Check.same("it waits", "119", x.waiting(2));
        Check.same("all are heard", 120, x.carryAll(2));
        Check.same("one was doubled", 1, x.ofPlace(2, 3));
        Check.same("alike", x.drawn(0, 0, true), x.drawn(2, 0, true));
    }

    private static void causesComeAhead() {
        Roomtalk x = Towns.threeIn();
        x.sit(2, 1);
        x.part();
        Check.same("say at half 0", 2, Towns.word(x, 0, 0));
        Check.same("say at half 0", 3, Towns.word(x, 0, 0));
        Check.same("sit, with none of these heard", 0, x.sit(1, 1));
        Check.same("but they arrive", 2, x.carryAll(2));
        x.off(5, true);
        Check.same("half 1 has them not", 2, x.house(3));
        Check.same("say at half 1", 4, Towns.word(x, 2, 0));
        Check.same("half 1 has its causes, too", 5, x.house(3));
        Check.same("half 0 has it not", 4, x.house(2));
        ways("they come ahead of it", x, " / 2 3 /  / 2 3 4 / 2 3 4 /  /  /  /  /  /  / ");
        Check.same("rejoin", 1, x.rejoin(false));
        ways("what was lacking", x, "4 / 2 3 4 /  / 2 3 4 / 2 3 4 /  /  /  /  /  /  / ");
    }
}
