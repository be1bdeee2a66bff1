/** Promise by promise: ordinary inputs, the edges that the document names, and wrong inputs. */
public final class PromiseTest {
    private static final Class<IndexOutOfBoundsException> INDEX = IndexOutOfBoundsException.class;
    private static final Class<IllegalArgumentException> ARGUMENT = IllegalArgumentException.class;
    private static final Class<IllegalStateException> STATE = IllegalStateException.class;
    private static final int[] WRONG_PLACES = {-1, 12, Integer.MIN_VALUE, Integer.MAX_VALUE};
    private static final int[] WRONG_ROOMS = {-1, 3, Integer.MIN_VALUE, Integer.MAX_VALUE};
    private static final int[] WRONG_MEMBERS = {-1, 6, Integer.MIN_VALUE, Integer.MAX_VALUE};

    private PromiseTest() {
    }

    public static void main(String[] args) {
        promise1NewObject();
        promise2Tick();
        promise3Sit();
        promise4Part();
        promise5Rejoin();
        promise5CausesComeAhead();
        promise5CausesComeByTheHalf();
        promise5InByTheOtherHalf();
        promise6Off();
        promise7Carry();
        promise7Waiting();
        promise8CarryAll();
        promise9Enter();
        promise9EnterGoesByTheHalf();
        promise10Leave();
        promise11Say();
        promise11Bounds();
        promise12Edit();
        promises12To22Rights();
        promise13Back();
        promise14Mark();
        promise15Pin();
        promise16Poll();
        promise17Vote();
        promise18Right();
        promise19Call();
        promise20Bar();
        promise21Slow();
        promise22Lock();
        promises9To22FullAndOff();
        promises9To22Order();
        promise23Keyword();
        promise24Rule();
        promise24Age();
        promise25Read();
        promise26Notices();
        promise27Drawn();
        promise28Was();
        promise29OfWord();
        promise30Text();
        promise31Tally();
        promise32Found();
        promise33Order();
        promise34Summary();
        promise35OfRoom();
        promise36Rights();
        promise37Export();
        promise38Again();
        promise39Way();
        promise40Waiting();
        promise41OfPlace();
        promise42OfAct();
        promise43House();
        promise44Knock();
        promise45IsSound();
        promise46Digest();
        Check.finish("PromiseTest");
    }

    private static void promise1NewObject() {
        Roomtalk x = new Roomtalk();
        for (int place = 0; place < 12; place++) {
            Check.same("new way", "", x.way(place));
            Check.same("new waiting", "", x.waiting(place));
            Check.same("new summary", "", x.summary(place));
            for (int what = 0; what < 6; what++) {
                Check.same("new ofPlace", 0, x.ofPlace(place, what));
            }
            for (int room = 0; room < 3; room++) {
                int[] due = {1 << room, 0, 0, room == 2 ? 1 : 0, 0, 0, 0, 0, 0, 0};
                for (int what = 0; what < 10; what++) {
                    Check.same("new ofRoom " + what, due[what], x.ofRoom(place, room, what));
                }
                for (int member = 0; member < 6; member++) {
                    Check.same("new rights", member == room ? 63 : 1, x.rights(place, room, member));
                }
                Check.same("new drawn", "", x.drawn(place, room, true));
                Check.same("new drawn", "", x.drawn(place, room, false));
                Check.same("new export", "", x.export(place, room));
                Check.same("new again", "", x.again(place, room));
                Check.same("new order", "", x.order(place, room));
                Check.same("new was", "", x.was(place, room, 0));
            }
        }
        for (int member = 0; member < 6; member++) {
            Check.same("new notices", "", x.notices(member));
            Check.same("new keyword", -1, x.keyword(member, -1));
        }
        for (int what = 0; what < 8; what++) {
            Check.same("new house", 0, x.house(what));
        }
        Check.same("new isSound", true, x.isSound());
    }

    private static void promise2Tick() {
        Roomtalk x = new Roomtalk();
        Check.same("tick", 0, x.tick(0));
        Check.same("tick", 7, x.tick(7));
        Check.same("tick", 0, x.say(0, 0, -1, 0, -1, -1));
        Check.same("time", 7, x.ofAct(0, 3));
        Check.fails("tick", ARGUMENT, () -> x.tick(-1));
        Check.fails("tick", ARGUMENT, () -> x.tick(1001));
        Check.fails("tick", ARGUMENT, () -> x.tick(Integer.MIN_VALUE));
        Check.fails("tick", ARGUMENT, () -> x.tick(Integer.MAX_VALUE));
        Check.same("tick", 7, x.house(0));
        for (int k = 1; k <= 99; k++) {
            Check.same("tick", 7 + 1000 * k, x.tick(1000));
        }
        Check.fails("tick", STATE, () -> x.tick(994));
        Check.same("tick", 100000, x.tick(993));
        Check.fails("tick", STATE, () -> x.tick(1));
        Check.fails("tick", ARGUMENT, () -> x.tick(1001));
        Check.same("tick", 100000, x.tick(0));
    }

    private static void promise3Sit() {
        Roomtalk x = Towns.threeIn();
        Check.same("sit", 0, x.sit(1, 1));
        Check.same("sit again", 0, x.sit(1, 1));
        Check.same("half", 1, x.ofPlace(2, 5));
        Check.same("half", 1, x.ofPlace(3, 5));
        Check.same("half", 0, x.ofPlace(4, 5));
        x.part();
        Check.same("say", 2, Towns.word(x, 0, 0));
        Check.same("half 0", 3, x.house(2));
        Check.same("half 1", 2, x.house(3));
        Check.same("way", "", x.way(2));
        Check.same("way", "2", x.way(4));
        Check.same("sit takes what was heard along", 1, x.sit(0, 1));
        Check.same("half 1", 3, x.house(3));
        Check.same("way", "2", x.way(2));
        Check.same("way", "2", x.way(3));
        Check.same("sit back", 0, x.sit(0, 0));
        Check.same("say", 3, Towns.word(x, 2, 1));
        Check.same("what is on the way alone is not taken along", 0, x.sit(2, 1));
        Check.same("way", "2 3", x.way(4));
        for (int wrong : WRONG_MEMBERS) {
            Check.fails("sit", INDEX, () -> x.sit(wrong, 0));
        }
        for (int wrong : new int[] {-1, 2, Integer.MAX_VALUE}) {
            Check.fails("sit", INDEX, () -> x.sit(0, wrong));
        }
        Check.same("half", 0, x.ofPlace(0, 5));
    }

    private static void promise4Part() {
        Roomtalk x = Towns.threeIn();
        Check.same("part", 1, x.part());
        Check.same("part", 0, x.part());
        Check.same("parted", 1, x.house(4));
        Towns.word(x, 0, 0);
        Check.same("half 0", 3, x.house(2));
        Check.same("half 1", 2, x.house(3));
    }

    private static void promise5Rejoin() {
        for (int begins = 0; begins < 2; begins++) {
            Roomtalk x = Towns.threeIn();
            boolean isSecond = begins == 1;
            Check.same("rejoin", -1, x.rejoin(isSecond));
            x.sit(1, 1);
            x.part();
            Towns.word(x, 0, 0);
            Towns.word(x, 1, 1);
            Towns.word(x, 2, 2);
            Check.same("way", "", x.way(3).replace("4", ""));
            Check.same("rejoin", 3, x.rejoin(isSecond));
            Check.same("rejoin", -1, x.rejoin(isSecond));
            Check.same("parted", 0, x.house(4));
            Check.same("half 0", 5, x.house(2));
            Check.same("half 1", 5, x.house(3));
            Check.same("by order", "3 4", x.way(0));
            Check.same("by order", "2 4", x.way(1));
            Check.same("by order", "2 3", x.way(2));
            Check.same("by order", "4 2 3", x.way(3));
            Check.same("by order", "2 3 4", x.way(4));
            Towns.hearAll(x);
            Check.same("drawn", "2:0:hey / 3:0:rain / 4:1:bread", x.drawn(5, 0, false));
        }
    }

    private static void promise5CausesComeAhead() {
        Roomtalk x = Towns.threeIn();
        x.sit(1, 1);
        x.sit(3, 1);
        x.part();
        Check.same("enter at half 1", 2, x.enter(6, 0));
        Check.same("not heard, so not taken along", 0, x.sit(3, 0));
        Towns.word(x, 0, 0);
        Towns.word(x, 0, 1);
        Towns.word(x, 0, 2);
        Check.same("sit", 0, x.sit(1, 0));
        Check.same("way", "2 3 4 5", x.way(2));
        Check.same("carry", 1, x.carry(2, 0, false));
        Check.same("half 0", 5, x.house(2));
        Check.same("say", 6, Towns.word(x, 2, 3));
        Check.same("with its cause", 7, x.house(2));
        Check.same("half 1", 3, x.house(3));
        Check.same("first the cause, then it", "2 6", x.way(0));
        Check.same("who is in by the cause catches up ahead of it", "0 1 2 3 4 5 6", x.way(6));
    }

    private static void promise5CausesComeByTheHalf() {
        Roomtalk x = Towns.threeIn();
        Check.same("enter", 2, x.enter(6, 0));
        Towns.hearAll(x);
        x.sit(2, 1);
        x.part();
        Check.same("a word at half 0", 3, Towns.word(x, 6, 0));
        Check.same("not heard, so not taken along", 0, x.sit(1, 1) + x.sit(0, 1));
        Check.same("heard then", 1, x.carryAll(2));
        Check.same("bar at half 1, not heard by member 1", 4, x.bar(0, 0, 2, true));
        Check.same("say, with a cause that half 1 has not", 5, Towns.word(x, 2, 1));
        Check.same("in by what that half has", "3 5", x.way(0));
        Check.same("not in by it, though by the place that says it", "4", x.way(4));
    }

    private static void promise5InByTheOtherHalf() {
        Roomtalk x = Towns.threeIn();
        x.sit(3, 1);
        x.part();
        Check.same("enter at half 1", 2, x.enter(6, 0));
        Check.same("sit", 0, x.sit(3, 0));
        Check.same("bar at half 0", 3, x.bar(0, 0, 2, true));
        Check.same("sit", 0, x.sit(2, 1));
        Check.same("say", 4, Towns.word(x, 0, 0));
        Check.same("in by half 0 no more, by half 1 as yet", "3 2", x.way(4));
        Check.same("rejoin", 3, x.rejoin(false));
        Check.same("in by what came to half 0", "0 1 2 3 4", x.way(6));
        Check.same("not in by what came to half 1", "3 2", x.way(4));
    }

    private static void promise6Off() {
        Roomtalk x = Towns.threeIn();
        Check.same("off", 0, x.off(2, true));
        Check.same("off", 1, x.off(2, true));
        Check.same("is off", 1, x.ofPlace(2, 4));
        Check.same("off makes no acts", -1, Towns.word(x, 2, 0));
        Check.same("say", 2, Towns.word(x, 0, 0));
        Check.same("way", "", x.way(2));
        Check.same("way", "2", x.way(3));
        Check.same("off", 1, x.off(2, false));
        Check.same("way", "2", x.way(2));
        x.off(2, true);
        Check.same("what is there may arrive", 1, x.carry(2, 0, false));
        Check.same("off", 1, x.off(2, false));
        Check.same("off", 0, x.off(2, false));
        Check.same("way", "", x.way(2));
        for (int wrong : WRONG_PLACES) {
            Check.fails("off", INDEX, () -> x.off(wrong, true));
        }
    }

    private static void promise7Carry() {
        Roomtalk x = Towns.threeIn();
        Towns.word(x, 0, 0);
        Towns.word(x, 0, 1);
        Check.same("way", "2 3", x.way(2));
        Check.fails("carry", INDEX, () -> x.carry(2, -1, false));
        Check.fails("carry", INDEX, () -> x.carry(2, 2, false));
        Check.fails("carry", INDEX, () -> x.carry(2, Integer.MAX_VALUE, true));
        Check.same("it stays on the way, too", 1, x.carry(2, 0, true));
        Check.same("way", "2 3", x.way(2));
        Check.same("doubled", 0, x.ofPlace(2, 3));
        Check.same("heard already", 0, x.carry(2, 0, false));
        Check.same("doubled", 1, x.ofPlace(2, 3));
        Check.same("way", "3", x.way(2));
        Check.same("carry", 1, x.carry(2, 0, false));
        Check.fails("carry", INDEX, () -> x.carry(2, 0, false));
        for (int wrong : WRONG_PLACES) {
            Check.fails("carry", INDEX, () -> x.carry(wrong, 0, false));
        }
    }

    private static void promise7Waiting() {
        Roomtalk x = Towns.threeIn();
        Towns.word(x, 0, 0);
        Towns.word(x, 0, 1);
        Towns.word(x, 0, 2);
        Check.same("turned round", 0, x.carry(2, 2, true));
        Check.same("waiting", "4", x.waiting(2));
        Check.same("it waits already", 0, x.carry(2, 2, false));
        Check.same("doubled", 1, x.ofPlace(2, 3));
        Check.same("turned round", 0, x.carry(2, 1, false));
        Check.same("waiting", "3 4", x.waiting(2));
        Check.same("waits", 2, x.ofPlace(2, 2));
        Check.same("all that waited", 3, x.carry(2, 0, false));
        Check.same("waiting", "", x.waiting(2));
        Check.same("heard", 5, x.ofPlace(2, 0));
    }

    private static void promise8CarryAll() {
        Roomtalk x = Towns.threeIn();
        Check.same("carryAll", 0, x.carryAll(2));
        Towns.word(x, 0, 0);
        Towns.word(x, 0, 1);
        x.carry(2, 1, true);
        Check.same("the second waited", 2, x.carryAll(2));
        Check.same("doubled", 1, x.ofPlace(2, 3));
        Check.same("way", "", x.way(2));
        for (int wrong : WRONG_PLACES) {
            Check.fails("carryAll", INDEX, () -> x.carryAll(wrong));
        }
    }

    private static void promise9Enter() {
        Roomtalk x = new Roomtalk();
        Check.same("enter", 0, x.enter(2, 0));
        Check.same("not heard at once", 0, x.ofPlace(2, 0));
        Check.same("way", "0", x.way(0));
        Check.same("way", "0", x.way(2));
        Check.same("way", "0", x.way(3));
        Check.same("way", "", x.way(4));
        Check.same("not in by what it heard", -2, Towns.word(x, 2, 0));
        x.carryAll(2);
        Check.same("say", 1, Towns.word(x, 2, 0));
        Check.same("entered again", 2, x.enter(2, 0));
        Check.same("private", -7, x.enter(2, 2));
        Check.same("the member with its number", 3, x.enter(4, 2));
        Check.same("call", 4, x.call(5, 2, 1));
        Check.same("called", 5, x.enter(2, 2));
        Check.same("bar", 6, x.bar(0, 0, 3, true));
        Check.same("barred", -7, x.enter(6, 0));
        Check.same("no more", 7, x.bar(0, 0, 3, false));
        Check.same("enter", 8, x.enter(6, 0));
        for (int wrong : WRONG_PLACES) {
            Check.fails("enter", INDEX, () -> x.enter(wrong, 0));
        }
        for (int wrong : WRONG_ROOMS) {
            Check.fails("enter", INDEX, () -> x.enter(0, wrong));
        }
    }

    private static void promise9EnterGoesByTheHalf() {
        Roomtalk x = new Roomtalk();
        Towns.word(x, 0, 0);
        Towns.word(x, 0, 1);
        Check.same("enter", 2, x.enter(2, 0));
        Check.same("causes", 2, x.ofAct(2, 5));
        Check.same("height", 2, x.ofAct(2, 4));
        Check.same("caught up by order", "0 1 2", x.way(2));
        x.sit(3, 1);
        x.part();
        Check.same("enter", 3, x.enter(6, 0));
        Check.same("causes", 3, x.ofAct(3, 5));
        Check.same("way", "2", x.way(0));
        Check.same("bar", 4, x.bar(0, 0, 4, true));
        Check.same("by the other half", 5, (x.sit(4, 1) == 0 ? 0 : 100) + x.enter(8, 0));
        Check.same("by this half", -7, x.sit(5, 0) == 0 && x.bar(0, 0, 5, true) == 6 ? x.enter(10, 0) : 0);
    }

    private static void promise10Leave() {
        Roomtalk x = Towns.threeIn();
        Check.same("leave", 2, x.leave(2, 0));
        Check.same("way to the other place, too", "2", x.way(3));
        Check.same("out", -2, x.leave(2, 0));
        Check.same("not heard there", 3, Towns.word(x, 3, 0));
        Check.same("nothing more comes", 4, Towns.word(x, 0, 0));
        Check.same("way", "2", x.way(3));
        x.carryAll(3);
        Check.same("out", -2, x.leave(3, 0));
        Check.same("in", 5, x.ofRoom(2, 0, 0));
        Roomtalk y = new Roomtalk();
        Check.same("leave", 0, y.leave(0, 0));
        Check.same("one was in ahead of it", "0", y.way(1));
        Check.same("never in", -2, x.leave(8, 0));
        for (int wrong : WRONG_PLACES) {
            Check.fails("leave", INDEX, () -> x.leave(wrong, 0));
        }
        for (int wrong : WRONG_ROOMS) {
            Check.fails("leave", INDEX, () -> x.leave(0, wrong));
        }
    }

    private static void promise11Say() {
        Roomtalk x = Towns.threeIn();
        Roomtalk first = new Roomtalk();
        Check.same("say", 0, Towns.word(first, 0, 2));
        Check.same("say", 1, first.say(0, 0, 0, 3, -1, -1));
        Check.same("drawn", "0:0:bread / >1:0:boat", first.drawn(0, 0, true));
        Check.same("drawn", "0:0:bread / 1:0:boat", first.drawn(0, 0, false));
        Check.same("edit", 2, first.edit(0, 0, 4, -1));
        Check.same("text", "yes", first.text(0, 0));
        Check.same("say", 2, x.say(0, 0, -1, 0, -1, -1));
        Check.same("say", 3, x.say(0, 0, 2, 0, 11, 6));
        Check.same("text", "hey @5 @0", x.text(0, 3));
        Check.same("not heard", -5, x.say(2, 0, 2, 0, -1, -1));
        Check.same("no word", -5, x.say(0, 0, 0, 0, -1, -1));
        Check.same("no act", -5, x.say(0, 0, 4, 0, -1, -1));
        Check.same("no act", -5, x.say(0, 0, -2, 0, -1, -1));
        Check.same("no act", -5, x.say(0, 0, Integer.MAX_VALUE, 0, -1, -1));
        Check.same("out", -2, x.say(0, 1, -1, 0, -1, -1));
        Check.same("of another room", -5, x.say(0, 1, 2, 0, -1, -1));
        Check.same("back", 4, x.back(0, 2));
        Check.same("one taken back can be answered", 5, x.say(0, 0, 2, 0, -1, -1));
        Check.same("right", 6, x.right(0, 0, 1, 0, false));
        x.carryAll(2);
        Check.same("no right", -3, Towns.word(x, 2, 0));
        for (int wrong : WRONG_PLACES) {
            Check.fails("say", INDEX, () -> x.say(wrong, 0, -1, 12, -1, -1));
        }
        for (int wrong : WRONG_ROOMS) {
            Check.fails("say", INDEX, () -> x.say(0, wrong, -1, 12, -1, -1));
        }
        Check.fails("say", ARGUMENT, () -> x.say(0, 0, -1, -1, -1, -1));
        Check.fails("say", ARGUMENT, () -> x.say(0, 0, -1, 12, -1, -1));
        Check.fails("say", ARGUMENT, () -> x.say(0, 0, -1, 0, -2, -1));
        Check.fails("say", ARGUMENT, () -> x.say(0, 0, -1, 0, 12, -1));
        Check.fails("say", ARGUMENT, () -> x.say(0, 0, -1, 0, 0, -2));
        Check.fails("say", ARGUMENT, () -> x.say(0, 0, -1, 0, 0, 12));
        Check.fails("c with b alone", ARGUMENT, () -> x.say(0, 0, -1, 0, -1, 0));
        Check.same("nothing changed", 7, x.house(1));
    }

    private static void promise11Bounds() {
        Roomtalk x = Towns.threeIn();
        Check.same("slow", 2, x.slow(0, 0, 2, 10));
        x.carryAll(2);
        Check.same("say", 3, Towns.word(x, 0, 0));
        x.tick(9);
        Check.same("say", 4, Towns.word(x, 0, 0));
        Check.same("two in ten ticks", -4, Towns.word(x, 0, 0));
        Check.same("polls, too", -4, x.poll(0, 0, 2));
        Check.same("of each member", 5, Towns.word(x, 2, 0));
        x.tick(1);
        Check.same("the first is out of the span", 6, Towns.word(x, 0, 0));
        Check.same("slow", -4, Towns.word(x, 0, 0));
        Check.same("back", 7, x.back(0, 6));
        Check.same("taken back ones count", -4, Towns.word(x, 0, 0));
        Check.same("no bound", 8, x.slow(0, 0, 0, 100));
        Check.same("say", 9, Towns.word(x, 0, 0));

        // A word from elsewhere may stand ahead by order, and behind by time.
        Roomtalk y = new Roomtalk();
        y.slow(0, 0, 1, 5);
        Check.same("heard", 1, y.carryAll(1));
        Check.same("say at one place", 1, y.say(0, 0, -1, 0, -1, -1));
        Check.same("at the other, not heard", 2, y.say(1, 0, -1, 1, -1, -1));
        y.carryAll(0);
        y.carryAll(1);
        Check.same("the second is void", "0 1 2!", y.order(0, 0));
        Check.same("void ones do not count", 3, later(y, 5));
        boundsOfTheWidestSpan();
        Check.same("the widest span", "0 1 3 2!", orderOfApart(99));
        Check.same("out of the widest span", "0 1 3 2", orderOfApart(100));
    }

    private static void boundsOfTheWidestSpan() {
        Roomtalk x = Towns.threeIn();
        x.slow(0, 0, 1, 100);
        Check.same("say", 3, Towns.word(x, 0, 0));
        x.tick(99);
        Check.same("the last tick of the span", -4, Towns.word(x, 0, 0));
        x.carryAll(2);
        Check.same("another member", 4, Towns.word(x, 2, 0));
        x.tick(1);
        Check.same("behind the span", 5, Towns.word(x, 0, 0));

        // Two at each side of a word, but no three in one span.
        Roomtalk y = new Roomtalk();
        y.slow(0, 0, 2, 100);
        y.carryAll(1);
        Towns.word(y, 0, 0);
        y.lock(0, 0, true);
        y.tick(99);
        Towns.word(y, 0, 1);
        y.tick(1);
        Towns.word(y, 1, 2);
        y.carryAll(0);
        Check.same("two in each span", "0 1 4 2 3", y.order(0, 0));
    }

    /** The word 3 stands ahead of the word 2 of the same member, and comes so many ticks later. */
    private static String orderOfApart(int ticks) {
        Roomtalk x = new Roomtalk();
        x.slow(0, 0, 1, 100);
        x.carryAll(1);
        x.lock(0, 0, true);
        Check.same("say", 2, Towns.word(x, 0, 0));
        x.tick(ticks);
        Check.same("say", 3, Towns.word(x, 1, 1));
        x.carryAll(0);
        x.carryAll(1);
        Check.same("alike", x.order(0, 0), x.order(1, 0));
        return x.order(0, 0);
    }

    private static int later(Roomtalk x, int ticks) {
        x.tick(ticks);
        return Towns.word(x, 0, 0);
    }

    private static void promise12Edit() {
        Roomtalk x = Towns.threeIn();
        int word = x.say(2, 0, -1, 0, 1, 2);
        Check.same("edit", 3, x.edit(2, word, 3, 7));
        Check.same("text", "boat @1", x.text(2, word));
        Check.same("edited", 1, x.ofWord(2, word, 3));
        Check.same("not heard", -5, x.edit(0, word, 0, -1));
        Towns.hearAll(x);
        Check.same("words of others", 4, x.edit(0, word, 4, -1));
        Check.same("text", "yes", x.text(0, word));
        Check.same("no right", -3, x.edit(4, word, 0, -1));
        Check.same("no word", -5, x.edit(0, 0, 0, -1));
        Check.same("no act", -5, x.edit(0, 5, 0, -1));
        Check.same("no act", -5, x.edit(0, -1, 0, -1));
        Check.same("no act", -5, x.edit(0, Integer.MIN_VALUE, 0, -1));
        Check.same("back", 5, x.back(2, word));
        Check.same("gone", -6, x.edit(2, word, 0, -1));
        Check.same("poll", 6, x.poll(2, 0, 3));
        Check.same("of a poll it makes nothing", 7, x.edit(2, 6, 0, -1));
        Check.same("text", "poll3", x.text(2, 6));
        Check.same("edited", 0, x.ofWord(2, 6, 3));
        Check.same("not void", 0, x.ofRoom(2, 0, 7));
        Check.same("leave", 8, x.leave(2, 0));
        Check.same("out", -2, x.edit(2, 6, 0, -1));
        for (int wrong : WRONG_PLACES) {
            Check.fails("edit", INDEX, () -> x.edit(wrong, word, 12, -1));
        }
        Check.fails("edit", ARGUMENT, () -> x.edit(0, word, -1, -1));
        Check.fails("edit", ARGUMENT, () -> x.edit(0, word, 12, -1));
        Check.fails("edit", ARGUMENT, () -> x.edit(0, 999, 0, -2));
        Check.fails("edit", ARGUMENT, () -> x.edit(0, word, 0, 12));
    }

    /** Each right alone lets one do what it is for, and nothing else. */
    private static void promises12To22Rights() {
        String[] due = {
            "-3 -3 -3 -3 -3 -3 -3 -3 ", "4 -3 -3 -3 -3 -3 -3 -3 ", "-3 4 -3 -3 -3 -3 -3 -3 ",
            "-3 -3 4 -3 -3 -3 -3 -3 ", "-3 -3 -3 -3 4 5 6 7 ", "-3 -3 -3 4 -3 -3 -3 -3 "};
        for (int right = 0; right < 6; right++) {
            Roomtalk x = Towns.threeIn();
            int word = Towns.word(x, 0, 0);
            x.right(0, 0, 1, right, true);
            x.carryAll(2);
            int[] answers = {
                x.edit(2, word, 1, -1), x.back(2, word), x.pin(2, word, true), x.right(2, 0, 3, 5, true),
                x.call(2, 0, 3), x.bar(2, 0, 3, false), x.slow(2, 0, 0, 1), x.lock(2, 0, false)};
            StringBuilder all = new StringBuilder();
            for (int answer : answers) {
                all.append(answer).append(' ');
            }
            Check.same("right " + right, due[right], all.toString());
        }
    }

    private static void promise13Back() {
        Roomtalk x = Towns.threeIn();
        int word = Towns.word(x, 2, 0);
        Check.same("not heard", -5, x.back(0, word));
        Towns.hearAll(x);
        Check.same("no right", -3, x.back(4, word));
        Check.same("words of others", 3, x.back(0, word));
        Check.same("text", "-", x.text(0, word));
        Check.same("gone", -6, x.back(0, word));
        Check.same("without the right, this comes first", -3, x.back(4, word));
        Check.same("not heard there", 4, x.back(2, word));
        Towns.hearAll(x);
        Check.same("the second is void", "0 1 2 3 4!", x.order(4, 0));
        Check.same("no word", -5, x.back(0, 3));
        Check.same("no act", -5, x.back(0, -1));
        Check.same("no act", -5, x.back(0, 120));
        for (int wrong : WRONG_PLACES) {
            Check.fails("back", INDEX, () -> x.back(wrong, word));
        }
    }

    private static void promise14Mark() {
        Roomtalk x = Towns.threeIn();
        int word = Towns.word(x, 2, 0);
        Check.same("not heard", -5, x.mark(0, word, 1, true));
        Towns.hearAll(x);
        Check.same("mark", 3, x.mark(0, word, 4, true));
        Check.same("mark", 4, x.mark(0, word, 4, true));
        Check.same("mark", 5, x.mark(0, word, 1, true));
        Towns.hearAll(x);
        Check.same("mark", 6, x.mark(4, word, 4, true));
        Check.same("drawn", "2:1:hey+1x1+4x2", x.drawn(4, 0, false));
        Check.same("signs", 3, x.ofWord(4, word, 5));
        Check.same("unmark", 7, x.mark(4, word, 4, false));
        Check.same("also if it is so", 8, x.mark(4, word, 4, false));
        Check.same("unmark is of one alone", "2:1:hey+1x1+4x1", x.drawn(4, 0, false));
        Check.same("kinds", "5 6", x.ofAct(6, 1) + " " + x.ofAct(7, 1));
        Check.same("out", -2, outOf(x, word));
        Check.same("back", 10, x.back(0, word));
        Check.same("gone", -6, x.mark(0, word, 0, true));
        for (int wrong : WRONG_PLACES) {
            Check.fails("mark", INDEX, () -> x.mark(wrong, word, 9, true));
        }
        for (int wrong : new int[] {-1, 5, Integer.MAX_VALUE}) {
            Check.fails("mark", ARGUMENT, () -> x.mark(0, word, wrong, true));
        }
    }

    private static int outOf(Roomtalk x, int word) {
        x.leave(4, 0);
        return x.mark(4, word, 0, true);
    }

    private static void promise15Pin() {
        Roomtalk x = Towns.threeIn();
        int word = Towns.word(x, 2, 0);
        Towns.hearAll(x);
        Check.same("no right, also of one's own", -3, x.pin(2, word, true));
        Check.same("pin", 3, x.pin(0, word, true));
        Check.same("drawn", "2:1:hey^", x.drawn(0, 0, true));
        Check.same("pinned", 1, x.ofWord(0, word, 4));
        Check.same("pin", 4, x.pin(0, word, false));
        Check.same("drawn", "2:1:hey", x.drawn(0, 0, true));
        Check.same("no word", -5, x.pin(0, 1, true));
        Check.same("back", 5, x.back(0, word));
        Check.same("gone", -6, x.pin(0, word, true));
        Check.same("leave", 6, x.leave(0, 0));
        Check.same("out", -2, x.pin(0, word, true));
        for (int wrong : WRONG_PLACES) {
            Check.fails("pin", INDEX, () -> x.pin(wrong, word, true));
        }
    }

    private static void promise16Poll() {
        Roomtalk x = Towns.threeIn();
        Check.same("poll", 2, x.poll(0, 0, 2));
        Check.same("poll", 3, x.poll(0, 0, 4));
        Check.same("drawn", "2:0:poll2 / 3:0:poll4", x.drawn(0, 0, false));
        Check.same("options", 4, x.ofAct(3, 6));
        Check.same("out", -2, x.poll(0, 1, 2));
        x.right(0, 0, 0, 0, false);
        Check.same("no right", -3, x.poll(0, 0, 2));
        for (int wrong : WRONG_PLACES) {
            Check.fails("poll", INDEX, () -> x.poll(wrong, 0, 5));
        }
        for (int wrong : WRONG_ROOMS) {
            Check.fails("poll", INDEX, () -> x.poll(0, wrong, 1));
        }
        for (int wrong : new int[] {-1, 0, 1, 5}) {
            Check.fails("poll", ARGUMENT, () -> x.poll(0, 0, wrong));
        }
    }

    private static void promise17Vote() {
        Roomtalk x = Towns.threeIn();
        x.poll(0, 0, 3);
        Towns.hearAll(x);
        Check.same("vote", 3, x.vote(0, 2, 0));
        Check.same("vote", 4, x.vote(2, 2, 1));
        Check.same("vote", 5, x.vote(4, 2, 1));
        Check.same("vote", 6, x.vote(0, 2, 2));
        Towns.hearAll(x);
        Check.same("the last one counts", "0 2 1", x.tally(3, 2));
        Check.same("no such option", -5, x.vote(0, 2, 3));
        Check.same("say", 7, Towns.word(x, 0, 0));
        Check.same("no poll", -5, x.vote(0, 7, 0));
        Check.same("no act", -5, x.vote(0, 8, 0));
        Check.same("back", 8, x.back(0, 2));
        Check.same("gone", -6, x.vote(0, 2, 0));
        Check.same("votes stay", "0 2 1", x.tally(0, 2));
        Check.same("leave", 9, x.leave(0, 0));
        Check.same("out", -2, x.vote(0, 2, 0));
        for (int wrong : WRONG_PLACES) {
            Check.fails("vote", INDEX, () -> x.vote(wrong, 2, 9));
        }
        Check.fails("vote", ARGUMENT, () -> x.vote(0, 2, -1));
        Check.fails("vote", ARGUMENT, () -> x.vote(0, 2, 4));
    }

    private static void promise18Right() {
        Roomtalk x = Towns.threeIn();
        Check.same("right", 2, x.right(0, 0, 1, 5, true));
        Check.same("rights", 33, x.rights(0, 0, 1));
        x.carryAll(2);
        Check.same("one has it not oneself", -3, x.right(2, 0, 2, 3, true));
        Check.same("one has it oneself", 3, x.right(2, 0, 2, 0, false));
        Check.same("no GIVE", -3, x.right(4, 0, 1, 0, true));
        Check.same("oneself", 4, x.right(0, 0, 0, 3, false));
        Check.same("rights", 55, x.rights(0, 0, 0));
        Check.same("no more", -3, x.right(0, 0, 1, 3, true));
        Check.same("taking needs it, too", -3, x.right(0, 0, 1, 3, false));
        Check.same("GIVE itself", 5, x.right(0, 0, 0, 5, false));
        Check.same("no more", -3, x.right(0, 0, 0, 5, true));
        Check.same("out", -2, x.right(0, 1, 0, 0, true));
        for (int wrong : WRONG_PLACES) {
            Check.fails("right", INDEX, () -> x.right(wrong, 0, 0, 6, true));
        }
        for (int wrong : WRONG_ROOMS) {
            Check.fails("right", INDEX, () -> x.right(0, wrong, 0, 6, true));
        }
        for (int wrong : WRONG_MEMBERS) {
            Check.fails("right", INDEX, () -> x.right(0, 0, wrong, 6, true));
        }
        Check.fails("right", ARGUMENT, () -> x.right(0, 0, 0, -1, true));
        Check.fails("right", ARGUMENT, () -> x.right(0, 0, 0, 6, true));
    }

    private static void promise19Call() {
        Roomtalk x = Towns.threeIn();
        Check.same("call", 2, x.call(0, 0, 5));
        Check.same("called", 32, x.ofRoom(0, 0, 1));
        Check.same("no right", -3, x.call(2, 0, 5));
        Check.same("out", -2, x.call(0, 1, 5));
        for (int wrong : WRONG_PLACES) {
            Check.fails("call", INDEX, () -> x.call(wrong, 0, 0));
        }
        for (int wrong : WRONG_ROOMS) {
            Check.fails("call", INDEX, () -> x.call(0, wrong, 0));
        }
        for (int wrong : WRONG_MEMBERS) {
            Check.fails("call", INDEX, () -> x.call(0, 0, wrong));
        }
    }

    private static void promise20Bar() {
        Roomtalk x = Towns.threeIn();
        Check.same("no right", -3, x.bar(2, 0, 0, true));
        Check.same("bar", 2, x.bar(0, 0, 1, true));
        Check.same("barred", 2, x.ofRoom(0, 0, 2));
        Check.same("not in any more", 5, x.ofRoom(0, 0, 0));
        Check.same("it comes to who was in ahead of it", "2", x.way(2));
        Check.same("say", 3, Towns.word(x, 0, 0));
        Check.same("but no more", "2", x.way(2));
        Check.same("bar", 4, x.bar(0, 0, 1, false));
        Check.same("barred", 0, x.ofRoom(0, 0, 2));
        Check.same("not in by that", 5, x.ofRoom(0, 0, 0));
        Check.same("oneself", 5, x.bar(0, 0, 0, true));
        Check.same("out", -2, x.bar(0, 0, 0, false));
        Check.same("nor may one enter", -7, x.enter(0, 0));
        for (int wrong : WRONG_PLACES) {
            Check.fails("bar", INDEX, () -> x.bar(wrong, 0, 0, true));
        }
        for (int wrong : WRONG_ROOMS) {
            Check.fails("bar", INDEX, () -> x.bar(0, wrong, 0, true));
        }
        for (int wrong : WRONG_MEMBERS) {
            Check.fails("bar", INDEX, () -> x.bar(0, 0, wrong, true));
        }
    }

    private static void promise21Slow() {
        Roomtalk x = Towns.threeIn();
        Check.same("slow", 2, x.slow(0, 0, 5, 100));
        Check.same("many", 5, x.ofRoom(0, 0, 4));
        Check.same("span", 100, x.ofRoom(0, 0, 5));
        Check.same("slow", 3, x.slow(0, 0, 0, 7));
        Check.same("without", 0, x.ofRoom(0, 0, 4));
        Check.same("without", 0, x.ofRoom(0, 0, 5));
        Check.same("as it was told", 7, x.ofAct(3, 7));
        Check.same("no right", -3, x.slow(2, 0, 1, 1));
        Check.same("out", -2, x.slow(0, 1, 1, 1));
        for (int wrong : WRONG_PLACES) {
            Check.fails("slow", INDEX, () -> x.slow(wrong, 0, 9, 0));
        }
        for (int wrong : WRONG_ROOMS) {
            Check.fails("slow", INDEX, () -> x.slow(0, wrong, 9, 0));
        }
        Check.fails("slow", ARGUMENT, () -> x.slow(0, 0, -1, 1));
        Check.fails("slow", ARGUMENT, () -> x.slow(0, 0, 6, 1));
        Check.fails("slow", ARGUMENT, () -> x.slow(0, 0, 1, 0));
        Check.fails("slow", ARGUMENT, () -> x.slow(0, 0, 0, 101));
    }

    private static void promise22Lock() {
        Roomtalk x = Towns.threeIn();
        Check.same("lock", 2, x.lock(0, 0, true));
        Check.same("private", 1, x.ofRoom(0, 0, 3));
        Check.same("shut", -7, x.enter(6, 0));
        Check.same("those who are in stay", 7, x.ofRoom(0, 0, 0));
        Check.same("lock", 3, x.lock(0, 0, false));
        Check.same("enter", 4, x.enter(6, 0));
        Check.same("no right", -3, x.lock(2, 0, true));
        Check.same("out", -2, x.lock(0, 2, false));
        for (int wrong : WRONG_PLACES) {
            Check.fails("lock", INDEX, () -> x.lock(wrong, 0, true));
        }
        for (int wrong : WRONG_ROOMS) {
            Check.fails("lock", INDEX, () -> x.lock(0, wrong, true));
        }
    }

    /** What each act answers if all lacks are there. */
    private static String allActs(Roomtalk x, int place, int word) {
        StringBuilder all = new StringBuilder();
        int[] answers = {
            x.enter(place, 0), x.leave(place, 0), x.say(place, 0, word, 0, -1, -1), x.edit(place, word, 0, -1),
            x.back(place, word), x.mark(place, word, 0, true), x.pin(place, word, true), x.poll(place, 0, 2),
            x.vote(place, word, 0), x.right(place, 0, 0, 0, true), x.call(place, 0, 0), x.bar(place, 0, 5, true),
            x.slow(place, 0, 1, 1), x.lock(place, 0, true)};
        for (int answer : answers) {
            all.append(answer).append(' ');
        }
        return all.toString();
    }

    private static void promises9To22FullAndOff() {
        Roomtalk x = new Roomtalk();
        Check.same("bar", 0, x.bar(0, 0, 3, true));
        Check.same("nobody is in there", "-7 -2 -5 -5 -5 -5 -5 -2 -5 -2 -2 -2 -2 -2 ", allActs(x, 6, 999));
        for (int k = 1; k < 120; k++) {
            Check.same("say", k, Towns.word(x, 0, 0));
        }
        Check.same("acts", 120, x.house(1));
        Check.same("full", "-8 ".repeat(14), allActs(x, 0, 5));
        Check.same("full ahead of all", "-8 ".repeat(14), allActs(x, 6, 999));
        Check.same("acts", 120, x.house(1));
        x.off(6, true);
        Check.same("off ahead of that", "-1 ".repeat(14), allActs(x, 6, 999));
        Check.fails("exceptions ahead of that", ARGUMENT, () -> x.say(6, 0, -1, 12, -1, -1));
        Check.same("sound", true, x.isSound());
    }

    private static void promises9To22Order() {
        Roomtalk x = Towns.threeIn();
        int word = Towns.word(x, 0, 0);
        Towns.hearAll(x);
        x.back(0, word);
        x.leave(2, 0);
        Towns.hearAll(x);
        Check.same("out ahead of no right and gone", -2, x.edit(2, word, 0, -1));
        Check.same("out ahead of no right", -2, x.pin(2, word, true));
        Check.same("no right ahead of gone", -3, x.edit(4, word, 0, -1));
        Check.same("no right ahead of gone", -3, x.pin(4, word, true));
        Check.same("no right ahead of gone", -3, x.back(4, word));
        Check.same("gone", -6, x.mark(4, word, 0, true));
        x.slow(0, 0, 1, 100);
        Towns.word(x, 0, 0);
        x.right(0, 0, 0, 0, false);
        Check.same("no right ahead of slow", -3, Towns.word(x, 0, 0));
        Check.same("unheard ahead of all else", -5, x.say(2, 0, 77, 0, -1, -1));
    }

    private static void promise23Keyword() {
        Roomtalk x = Towns.threeIn();
        Check.same("keyword", -1, x.keyword(1, 3));
        Check.same("keyword", 3, x.keyword(1, 11));
        Check.same("keyword", 11, x.keyword(1, -1));
        Check.same("keyword", -1, x.keyword(1, 2));
        x.say(0, 0, -1, 0, 2, -1);
        Towns.word(x, 0, 3);
        Towns.hearAll(x);
        Check.same("notices", "2", x.notices(1));
        Check.same("notices", "", x.notices(2));
        for (int wrong : WRONG_MEMBERS) {
            Check.fails("keyword", INDEX, () -> x.keyword(wrong, 99));
        }
        for (int wrong : new int[] {-2, 12, Integer.MAX_VALUE}) {
            Check.fails("keyword", ARGUMENT, () -> x.keyword(0, wrong));
        }
    }

    private static void promise24Rule() {
        Roomtalk x = Towns.botIn();
        Check.same("rule", 1, x.rule(4, 1, 4));
        Check.same("rule", 2, x.rule(4, 2, 5));
        Check.same("rule", 1, x.rule(5, 0, 0));
        x.say(0, 0, -1, 2, 1, -1);
        Towns.word(x, 0, 3);
        Towns.word(x, 0, 2);
        Check.same("its second place answers nothing", 3, x.carryAll(9));
        Check.same("acts", 4, x.house(1));
        Check.same("what it says is left aside", 3, x.carryAll(8));
        Check.same("the first rule told counts; after all hearing", "4:4:yes / 5:4:no",
                x.drawn(8, 0, false).replace("1:0:bread rain / 2:0:boat / 3:0:bread / ", ""));
        Check.same("answered", "1 3", x.ofAct(4, 6) + " " + x.ofAct(5, 6));
        Check.same("words of bots", 2, x.house(6));
        Check.same("not twice", 0, x.carryAll(8));
        Towns.word(x, 0, 1);
        x.off(8, true);
        Check.same("heard", 1, x.carryAll(8));
        Check.same("it comes to nothing as it is off", 2, x.house(6));
        Check.same("rule", 3, x.rule(4, 1, 11));
        Check.fails("rule", STATE, () -> x.rule(4, 1, 11));
        Check.fails("rule", ARGUMENT, () -> x.rule(4, 12, 11));
        Check.fails("rule", ARGUMENT, () -> x.rule(4, -1, 0));
        Check.fails("rule", ARGUMENT, () -> x.rule(4, 0, -1));
        Check.fails("rule", ARGUMENT, () -> x.rule(5, 0, 12));
        for (int wrong : new int[] {-1, 0, 3, 6, Integer.MAX_VALUE}) {
            Check.fails("rule", INDEX, () -> x.rule(wrong, 99, 99));
        }
        Check.same("rule", 2, x.rule(5, 0, 0));
    }

    private static void promise24Age() {
        Roomtalk x = new Roomtalk();
        x.enter(8, 0);
        x.enter(10, 0);
        Towns.hearAll(x);
        x.rule(4, 1, 2);
        x.rule(5, 2, 1);
        Towns.word(x, 0, 1);
        for (int k = 0; k < 9; k++) {
            x.carryAll(8);
            x.carryAll(10);
        }
        Check.same("three answers", "2:0:rain / >3:4:bread / >>4:5:rain / >>>5:4:bread", x.drawn(8, 0, true));
        Check.same("age", "0123", "" + x.ofWord(8, 2, 8) + x.ofWord(8, 3, 8) + x.ofWord(8, 4, 8) + x.ofWord(8, 5, 8));
        Check.same("words of bots", 3, x.house(6));
        Check.same("by hand it is 0", 0, x.ofWord(8, x.say(8, 0, 4, 0, -1, -1), 8));
    }

    private static void promise25Read() {
        Roomtalk x = Towns.threeIn();
        Towns.word(x, 0, 0);
        Towns.word(x, 2, 1);
        Towns.hearAll(x);
        Check.same("read", 2, x.read(4, 0));
        Check.same("read", 0, x.read(4, 0));
        Check.same("those of others alone", 1, x.read(0, 0));
        Check.same("of a place", 2, x.read(5, 0));
        Towns.word(x, 0, 3);
        Towns.word(x, 0, 4);
        int gone = Towns.word(x, 0, 5);
        x.back(0, gone);
        Towns.hearAll(x);
        Check.same("taken back ones are none", 2, x.ofRoom(4, 0, 9));
        Check.same("read", 2, x.read(4, 0));
        for (int wrong : WRONG_PLACES) {
            Check.fails("read", INDEX, () -> x.read(wrong, 0));
        }
        for (int wrong : WRONG_ROOMS) {
            Check.fails("read", INDEX, () -> x.read(0, wrong));
        }
    }

    private static void promise26Notices() {
        Roomtalk x = Towns.threeIn();
        Towns.word(x, 2, 0);
        x.say(0, 0, -1, 0, 7, -1);
        Towns.hearAll(x);
        x.say(0, 0, 2, 0, -1, -1);
        x.say(2, 0, -1, 7, -1, -1);
        Towns.hearAll(x);
        Check.same("called, answered, once; none of one's own", "3 4", x.notices(1));
        Check.same("notices ever", 2, x.house(5));
        x.back(2, 2);
        Towns.hearAll(x);
        x.say(4, 0, 2, 0, -1, -1);
        Towns.hearAll(x);
        Check.same("answered though taken back", "3 4 7", x.notices(1));
        int gone = x.say(0, 0, -1, 7, -1, -1);
        x.back(0, gone);
        Towns.hearAll(x);
        Check.same("as it is heard it is not taken back yet", "3 4 7 8", x.notices(1));
        for (int k = 10; k < 20; k++) {
            x.say(0, 0, -1, 7, 8, -1);
        }
        Towns.hearAll(x);
        Check.same("the last 9", "11 12 13 14 15 16 17 18 19", x.notices(1));
        Check.same("the last 9", "11 12 13 14 15 16 17 18 19", x.notices(2));
        Check.same("notices ever", 24, x.house(5));
        for (int wrong : WRONG_MEMBERS) {
            Check.fails("notices", INDEX, () -> x.notices(wrong));
        }
    }

    /** Words 2 to 6: two threads, an edited, a marked, a pinned and one taken back. */
    private static Roomtalk talk() {
        Roomtalk x = Towns.threeIn();
        x.say(0, 0, -1, 0, -1, -1);
        x.say(0, 0, -1, 1, 2, -1);
        x.say(0, 0, 2, 3, -1, -1);
        x.say(0, 0, 3, 4, -1, -1);
        x.say(0, 0, 4, 5, -1, -1);
        x.say(0, 0, 2, 8, -1, -1);
        x.edit(0, 2, 0, 0);
        x.mark(0, 4, 3, true);
        x.pin(0, 4, true);
        x.back(0, 5);
        Towns.hearAll(x);
        return x;
    }

    private static void promise27Drawn() {
        Roomtalk x = talk();
        Check.same("flat", "2:0:hey hey* / 3:0:rain bread / 4:0:boat+3x1^ / 5:0:- / 6:0:no / 7:0:@2",
                x.drawn(2, 0, false));
        Check.same("nested", "2:0:hey hey* / >4:0:boat+3x1^ / >>6:0:no / >7:0:@2 / 3:0:rain bread / >5:0:-",
                x.drawn(2, 0, true));
        Check.same("elsewhere", "", x.drawn(2, 1, true));
        // By order, not as they came: member 0 ahead of member 1 at the same height.
        Roomtalk y = Towns.threeIn();
        Towns.word(y, 2, 0);
        Towns.word(y, 0, 1);
        Towns.word(y, 4, 2);
        Towns.hearAll(y);
        Check.same("by order", "3:0:rain / 2:1:hey / 4:2:bread", y.drawn(5, 0, false));
        // An answer to a void word stands outside.
        Roomtalk z = Towns.threeIn();
        z.right(0, 0, 1, 0, false);
        Towns.word(z, 2, 0);
        z.say(2, 0, 3, 1, -1, -1);
        z.carryAll(4);
        z.carryAll(2);
        Check.same("void with what is ahead", "0 1 2 3! 4!", z.order(4, 0));
        Check.same("drawn", "", z.drawn(4, 0, true));
        for (int wrong : WRONG_PLACES) {
            Check.fails("drawn", INDEX, () -> x.drawn(wrong, 0, true));
        }
        for (int wrong : WRONG_ROOMS) {
            Check.fails("drawn", INDEX, () -> x.drawn(0, wrong, true));
        }
    }

    private static void promise28Was() {
        Roomtalk x = talk();
        Check.same("was", "", x.was(0, 0, 2));
        Check.same("was", "2:0:hey", x.was(0, 0, 3));
        Check.same("taken back since", "2:0:hey / 3:0:rain bread / 4:0:boat / 5:0:-", x.was(0, 0, 6));
        Check.same("was", x.drawn(0, 0, false), x.was(0, 0, 12));
        Check.fails("was", ARGUMENT, () -> x.was(0, 0, -1));
        Check.fails("was", ARGUMENT, () -> x.was(0, 0, 13));
        Check.fails("was", ARGUMENT, () -> x.was(0, 1, 1));
        for (int wrong : WRONG_PLACES) {
            Check.fails("was", INDEX, () -> x.was(wrong, 0, -1));
        }
        for (int wrong : WRONG_ROOMS) {
            Check.fails("was", INDEX, () -> x.was(0, wrong, -1));
        }
        // As it was heard, not as it was made.
        Roomtalk y = Towns.threeIn();
        Towns.word(y, 0, 0);
        Towns.word(y, 2, 1);
        y.carryAll(2);
        Check.same("was", "3:1:rain", y.was(2, 0, 3));
        Check.same("was", "2:0:hey / 3:1:rain", y.was(2, 0, 4));
    }

    private static String facts(Roomtalk x, int place, int word) {
        StringBuilder all = new StringBuilder();
        for (int what = 0; what < 10; what++) {
            all.append(x.ofWord(place, word, what)).append(' ');
        }
        return all.toString();
    }

    private static void promise29OfWord() {
        Roomtalk x = talk();
        Check.same("facts", "0 -1 0 1 0 0 2 3 0 0 ", facts(x, 3, 2));
        Check.same("facts", "0 2 0 0 1 1 1 1 0 0 ", facts(x, 3, 4));
        Check.same("facts", "0 3 1 0 0 0 0 0 0 0 ", facts(x, 3, 5));
        x.poll(0, 0, 4);
        Check.same("facts", "0 -1 0 0 0 0 0 0 0 4 ", facts(x, 0, 12));
        // What is put at a word is not told any more as it is taken back.
        Check.same("back", 13, x.back(0, 4));
        Check.same("facts", "0 2 1 0 0 0 1 1 0 0 ", facts(x, 0, 4));
        Check.fails("not heard", INDEX, () -> x.ofWord(2, 12, 0));
        Check.fails("no word", INDEX, () -> x.ofWord(0, 8, 0));
        Check.fails("no act", INDEX, () -> x.ofWord(0, 14, 99));
        Check.fails("no act", INDEX, () -> x.ofWord(0, -1, 99));
        Check.fails("no act", INDEX, () -> x.ofWord(0, Integer.MAX_VALUE, 0));
        Check.fails("what", ARGUMENT, () -> x.ofWord(0, 2, -1));
        Check.fails("what", ARGUMENT, () -> x.ofWord(0, 2, 10));
        for (int wrong : WRONG_PLACES) {
            Check.fails("ofWord", INDEX, () -> x.ofWord(wrong, 2, 99));
        }
    }

    private static void promise30Text() {
        Roomtalk x = Towns.threeIn();
        String[] pieces = {"hey", "rain", "bread", "boat", "yes", "no", "@0", "@1", "@2", "@3", "@4", "@5"};
        for (int k = 0; k < pieces.length; k++) {
            Check.same("text", pieces[k], x.text(0, Towns.word(x, 0, k)));
        }
        Check.same("text", "no yes boat", x.text(0, x.say(0, 0, -1, 5, 4, 3)));
        Check.same("text", "poll2", x.text(0, x.poll(0, 0, 2)));
        x.back(0, 2);
        Check.same("text", "-", x.text(0, 2));
        Check.fails("not heard", INDEX, () -> x.text(2, 2));
        Check.fails("no word", INDEX, () -> x.text(0, 0));
        Check.fails("no act", INDEX, () -> x.text(0, 999));
        Check.fails("no act", INDEX, () -> x.text(0, -1));
        for (int wrong : WRONG_PLACES) {
            Check.fails("text", INDEX, () -> x.text(wrong, 2));
        }
    }

    private static void promise31Tally() {
        Roomtalk x = Towns.threeIn();
        x.poll(0, 0, 2);
        Check.same("tally", "0 0", x.tally(0, 2));
        x.vote(0, 2, 1);
        Check.same("tally", "0 1", x.tally(0, 2));
        Towns.word(x, 0, 0);
        Check.fails("no poll", INDEX, () -> x.tally(0, 4));
        Check.fails("not heard", INDEX, () -> x.tally(2, 2));
        Check.fails("no act", INDEX, () -> x.tally(0, 5));
        for (int wrong : WRONG_PLACES) {
            Check.fails("tally", INDEX, () -> x.tally(wrong, 2));
        }
    }

    private static void promise32Found() {
        Roomtalk x = talk();
        Check.same("found", "2", x.found(2, 0, 0));
        Check.same("found", "3", x.found(2, 0, 2));
        Check.same("taken back", "", x.found(2, 0, 4));
        Check.same("say", 12, Towns.word(x, 2, 1));
        Check.same("say", 13, Towns.word(x, 0, 1));
        Towns.hearAll(x);
        Check.same("by order", "3 13 12", x.found(4, 0, 1));
        Check.same("elsewhere", "", x.found(4, 1, 1));
        for (int wrong : WRONG_PLACES) {
            Check.fails("found", INDEX, () -> x.found(wrong, 0, 99));
        }
        for (int wrong : WRONG_ROOMS) {
            Check.fails("found", INDEX, () -> x.found(0, wrong, 99));
        }
        Check.fails("found", ARGUMENT, () -> x.found(0, 0, -1));
        Check.fails("found", ARGUMENT, () -> x.found(0, 0, 12));
    }

    private static void promise33Order() {
        Roomtalk x = Towns.threeIn();
        Check.same("order", "0 1", x.order(2, 0));
        Check.same("bar", 2, x.bar(0, 0, 1, true));
        Check.same("say", 3, Towns.word(x, 2, 0));
        Towns.hearAll(x);
        Check.same("void", "0 1 2 3!", x.order(4, 0));
        Check.same("void", "0 1 2 3!", x.order(2, 0));
        Check.same("void acts", 1, x.ofRoom(4, 0, 7));
        Check.same("order", "", x.order(4, 1));
        for (int wrong : WRONG_PLACES) {
            Check.fails("order", INDEX, () -> x.order(wrong, 0));
        }
        for (int wrong : WRONG_ROOMS) {
            Check.fails("order", INDEX, () -> x.order(0, wrong));
        }
    }

    private static void promise34Summary() {
        Roomtalk x = Towns.threeIn();
        x.enter(4, 1);
        Towns.hearAll(x);
        Towns.word(x, 0, 0);
        Towns.word(x, 2, 0);
        Towns.word(x, 2, 0);
        x.say(3, 1, -1, 0, -1, -1);
        Towns.hearAll(x);
        Check.same("summary", "0:3@0@1; 1:1@1", x.summary(4));
        Check.same("summary", "0:1@0", x.summary(2));
        Check.same("summary", "0:2@1", x.summary(0));
        x.read(4, 0);
        Check.same("summary", "1:1@1", x.summary(4));
        x.read(4, 1);
        Check.same("summary", "", x.summary(4));
        for (int wrong : WRONG_PLACES) {
            Check.fails("summary", INDEX, () -> x.summary(wrong));
        }
    }

    private static void promise35OfRoom() {
        Roomtalk x = talk();
        int[] due = {7, 0, 0, 0, 0, 0, 6, 0, 12, 6 - 1};
        for (int what = 0; what < due.length; what++) {
            Check.same("ofRoom " + what, due[what], x.ofRoom(3, 0, what));
        }
        Check.fails("ofRoom", ARGUMENT, () -> x.ofRoom(0, 0, -1));
        Check.fails("ofRoom", ARGUMENT, () -> x.ofRoom(0, 0, 10));
        for (int wrong : WRONG_PLACES) {
            Check.fails("ofRoom", INDEX, () -> x.ofRoom(wrong, 0, 99));
        }
        for (int wrong : WRONG_ROOMS) {
            Check.fails("ofRoom", INDEX, () -> x.ofRoom(0, wrong, 99));
        }
    }

    private static void promise36Rights() {
        Roomtalk x = Towns.threeIn();
        x.right(0, 0, 5, 4, true);
        x.right(0, 0, 5, 0, false);
        Check.same("rights", 16, x.rights(0, 0, 5));
        Check.same("rights", 1, x.rights(2, 0, 5));
        Check.same("rights", 1, x.rights(0, 1, 5));
        for (int wrong : WRONG_PLACES) {
            Check.fails("rights", INDEX, () -> x.rights(wrong, 0, 0));
        }
        for (int wrong : WRONG_ROOMS) {
            Check.fails("rights", INDEX, () -> x.rights(0, wrong, 0));
        }
        for (int wrong : WRONG_MEMBERS) {
            Check.fails("rights", INDEX, () -> x.rights(0, 0, wrong));
        }
    }

    private static void promise37Export() {
        Roomtalk x = Towns.threeIn();
        x.tick(12);
        x.say(0, 0, -1, 0, 1, -1);
        x.say(0, 0, 2, 3, -1, -1);
        x.edit(0, 2, 4, -1);
        x.edit(0, 3, 5, 5);
        x.back(0, 2);
        x.poll(0, 0, 2);
        x.right(0, 0, 1, 5, false);
        Check.same("export", "0,0,1,0,-1,-1,-1,-1;1,0,2,0,-1,-1,-1,-1;2,2,0,12,-1,-1,-1,-1;3,2,0,12,2,3,-1,-1;"
                + "4,3,0,12,2,-1,-1,-1;5,3,0,12,3,5,5,-1;6,4,0,12,2,-1,-1,-1;7,8,0,12,2,-1,-1,-1;"
                + "8,10,0,12,1,5,0,-1", x.export(0, 0));
        Check.same("heard alone", "0,0,1,0,-1,-1,-1,-1;1,0,2,0,-1,-1,-1,-1", x.export(2, 0));
        for (int wrong : WRONG_PLACES) {
            Check.fails("export", INDEX, () -> x.export(wrong, 0));
        }
        for (int wrong : WRONG_ROOMS) {
            Check.fails("export", INDEX, () -> x.export(0, wrong));
        }
    }

    private static void promise38Again() {
        Roomtalk x = talk();
        Check.same("again", x.drawn(4, 0, false), x.again(4, 0));
        Check.same("again", "2:0:hey hey* / 3:0:rain bread / 4:0:boat+3x1^ / 5:0:- / 6:0:no / 7:0:@2", x.again(4, 0));
        for (int wrong : WRONG_PLACES) {
            Check.fails("again", INDEX, () -> x.again(wrong, 0));
        }
        for (int wrong : WRONG_ROOMS) {
            Check.fails("again", INDEX, () -> x.again(0, wrong));
        }
    }

    private static void promise39Way() {
        Roomtalk x = Towns.threeIn();
        Towns.word(x, 2, 0);
        Towns.word(x, 0, 1);
        Check.same("way", "2 3", x.way(1));
        Check.same("way", "2", x.way(0));
        Check.same("way", "3", x.way(2));
        Check.same("way", "", x.way(8));
        for (int wrong : WRONG_PLACES) {
            Check.fails("way", INDEX, () -> x.way(wrong));
        }
    }

    private static void promise40Waiting() {
        Roomtalk x = Towns.threeIn();
        Towns.word(x, 0, 0);
        Towns.word(x, 0, 1);
        Towns.word(x, 0, 1);
        x.carry(4, 2, false);
        x.carry(4, 1, false);
        Check.same("waiting", "3 4", x.waiting(4));
        Check.same("waiting", "", x.waiting(5));
        for (int wrong : WRONG_PLACES) {
            Check.fails("waiting", INDEX, () -> x.waiting(wrong));
        }
    }

    private static void promise41OfPlace() {
        Roomtalk x = Towns.threeIn();
        Towns.word(x, 0, 0);
        Towns.word(x, 0, 1);
        x.carry(4, 1, true);
        x.carry(4, 1, true);
        x.off(4, true);
        x.sit(2, 1);
        int[] due = {2, 2, 1, 1, 1, 1};
        for (int what = 0; what < due.length; what++) {
            Check.same("ofPlace " + what, due[what], x.ofPlace(4, what));
        }
        Check.fails("ofPlace", ARGUMENT, () -> x.ofPlace(0, -1));
        Check.fails("ofPlace", ARGUMENT, () -> x.ofPlace(0, 6));
        for (int wrong : WRONG_PLACES) {
            Check.fails("ofPlace", INDEX, () -> x.ofPlace(wrong, 99));
        }
    }

    private static String ofAct(Roomtalk x, int act) {
        StringBuilder all = new StringBuilder();
        for (int what = 0; what < 10; what++) {
            all.append(x.ofAct(act, what)).append(' ');
        }
        return all.toString();
    }

    private static void promise42OfAct() {
        Roomtalk x = Towns.threeIn();
        x.tick(3);
        x.say(0, 0, -1, 1, 2, 3);
        x.edit(0, 2, 4, 5);
        x.mark(0, 2, 3, true);
        x.mark(0, 2, 3, false);
        x.pin(0, 2, true);
        x.back(0, 2);
        x.poll(0, 0, 3);
        x.vote(0, 8, 2);
        x.right(0, 0, 4, 3, false);
        x.call(0, 0, 4);
        x.bar(0, 0, 4, false);
        x.slow(0, 0, 2, 50);
        x.lock(0, 0, false);
        x.leave(0, 0);
        x.say(2, 0, -1, 0, -1, -1);
        String[] due = {
            "0 0 1 0 0 0 -1 -1 -1 -1 ", "0 0 2 0 1 1 -1 -1 -1 -1 ", "0 2 0 3 2 2 -1 -1 -1 -1 ",
            "0 3 0 3 3 3 2 -1 -1 -1 ", "0 5 0 3 4 4 2 3 -1 -1 ", "0 6 0 3 5 5 2 3 -1 -1 ",
            "0 7 0 3 6 6 2 1 -1 -1 ", "0 4 0 3 7 7 2 -1 -1 -1 ", "0 8 0 3 8 8 3 -1 -1 -1 ",
            "0 9 0 3 9 9 8 2 -1 -1 ", "0 10 0 3 10 10 4 3 0 -1 ", "0 11 0 3 11 11 4 -1 -1 -1 ",
            "0 12 0 3 12 12 4 0 -1 -1 ", "0 13 0 3 13 13 2 50 -1 -1 ", "0 14 0 3 14 14 0 -1 -1 -1 ",
            "0 1 0 3 15 15 -1 -1 -1 -1 ", "0 2 1 3 2 2 -1 -1 -1 -1 "};
        for (int act = 0; act < due.length; act++) {
            Check.same("ofAct " + act, due[act], ofAct(x, act));
        }
        for (int wrong : new int[] {-1, 17, 120, 121, Integer.MIN_VALUE, Integer.MAX_VALUE}) {
            Check.fails("ofAct", INDEX, () -> x.ofAct(wrong, 99));
        }
        Check.fails("ofAct", ARGUMENT, () -> x.ofAct(0, -1));
        Check.fails("ofAct", ARGUMENT, () -> x.ofAct(0, 10));
    }

    private static void promise43House() {
        Roomtalk x = Towns.botIn();
        x.rule(4, 0, 6);
        x.sit(1, 1);
        x.tick(9);
        x.part();
        Towns.word(x, 0, 0);
        x.carryAll(8);
        x.carryAll(0);
        x.knock();
        int[] due = {9, 3, 3, 1, 1, 1, 1, 1};
        for (int what = 0; what < due.length; what++) {
            Check.same("house " + what, due[what], x.house(what));
        }
        Check.fails("house", ARGUMENT, () -> x.house(-1));
        Check.fails("house", ARGUMENT, () -> x.house(8));
        Check.fails("house", ARGUMENT, () -> x.house(Integer.MAX_VALUE));
    }

    private static void promise44Knock() {
        Roomtalk x = new Roomtalk();
        for (int k = 1; k < 9; k++) {
            Check.same("knock", k, x.knock());
        }
        Check.same("refused", 8, x.house(7));
    }

    private static void promise45IsSound() {
        Roomtalk x = talk();
        Check.same("sound", true, x.isSound());
        Towns.word(x, 0, 0);
        Towns.word(x, 0, 0);
        x.carry(2, 1, true);
        Check.same("sound", true, x.isSound());
    }

    private static void promise46Digest() {
        Roomtalk x = Towns.botIn();
        x.rule(4, 0, 6);
        Towns.word(x, 0, 0);
        x.carry(8, 0, true);
        x.carryAll(2);
        x.knock();
        Check.same("digest", digestBySpec(x), x.digest());
        Check.same("digest of talk", digestBySpec(talk()), talk().digest());
        Check.same("digest of a new object", digestBySpec(new Roomtalk()), new Roomtalk().digest());
        Check.same("it changes nothing", x.digest(), x.digest());
    }

    /** The checksum, summed up from the answers of the face alone. */
    static long digestBySpec(Roomtalk x) {
        long d = 5807;
        for (int what = 0; what < 8; what++) {
            d = d * 31 + x.house(what);
        }
        for (int act = 0; act < x.house(1); act++) {
            for (int what = 0; what < 10; what++) {
                d = d * 31 + x.ofAct(act, what);
            }
        }
        for (int place = 0; place < 12; place++) {
            for (int what = 0; what < 6; what++) {
                d = d * 31 + x.ofPlace(place, what);
            }
            d = d * 31 + x.way(place).length();
            d = d * 31 + x.waiting(place).length();
            d = d * 31 + x.summary(place).length();
            for (int room = 0; room < 3; room++) {
                for (int what = 0; what < 10; what++) {
                    d = d * 31 + x.ofRoom(place, room, what);
                }
                d = d * 31 + x.order(place, room).length();
                d = d * 31 + x.drawn(place, room, true).length();
                d = d * 31 + x.export(place, room).length();
            }
        }
        for (int member = 0; member < 6; member++) {
            d = d * 31 + x.notices(member).length();
            int keyword = x.keyword(member, -1);
            x.keyword(member, keyword);
            d = d * 31 + keyword;
        }
        return d * 31 + (x.isSound() ? 1 : 0);
    }
}
