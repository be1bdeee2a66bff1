import java.util.Random;
import java.util.function.Supplier;

/**
 * Long runs of calls on Roomtalk and on NaiveHouse, which have to answer alike: in towns of several
 * tempers, with wrong arguments among the right ones, and with all that can be asked asked now and then.
 */
public final class RunsTest {
    private static final int RUNS = 60;
    private static final int CALLS = 512;
    private static final int[] WILD = {-1, -2, 0, 1, 3, 5, 6, 11, 12, 64, 119, 120, 121, 128, 1000, -1000,
        Integer.MIN_VALUE, Integer.MIN_VALUE + 1, Integer.MAX_VALUE, Integer.MAX_VALUE - 1};

    private final Random random;
    private final Roomtalk x = new Roomtalk();
    private final NaiveHouse y = new NaiveHouse();
    private final String name;
    private final int wildness;
    private final int carrying;
    private final int turning;

    private RunsTest(long seed) {
        random = new Random(seed);
        name = "run " + seed + ": ";
        wildness = random.nextInt(3) == 0 ? 8 : 200;
        carrying = 1 + random.nextInt(6);
        turning = random.nextInt(40);
    }

    public static void main(String[] args) {
        int runs = args.length > 1 ? Integer.parseInt(args[1]) : RUNS;
        for (int seed = 0; seed < runs && Check.wrongCount() == 0; seed++) {
            new RunsTest(seed).run();
        }
        Check.finish("RunsTest");
    }

    private void run() {
        begin();
        for (int k = 0; k < CALLS && Check.wrongCount() == 0; k++) {
            step();
            if (random.nextInt(40) == 0) {
                askAll();
            }
        }
        askAll();
        Check.same(name + "digest", PromiseTest.digestBySpec(x), x.digest());
    }

    private static Object answer(Supplier<Object> call) {
        try {
            return call.get();
        } catch (RuntimeException e) {
            return "throws " + e.getClass().getName();
        }
    }

    private void both(String call, Supplier<Object> due, Supplier<Object> got) {
        if (random.nextInt(3) == 0) {
            // A question changes nothing: not even what the next one has to look at.
            x.was(random.nextInt(12), random.nextInt(3), 0);
        }
        Check.same(name + call, answer(due), answer(got));
    }

    private int upTo(int bound) {
        if (random.nextInt(wildness) == 0) {
            return WILD[random.nextInt(WILD.length)];
        }
        return random.nextInt(bound);
    }

    private boolean is() {
        return random.nextInt(3) != 0;
    }

    private int place() {
        return upTo(12);
    }

    private int room() {
        return random.nextInt(4) == 0 ? upTo(3) : upTo(1);
    }

    private int word() {
        int acts = Math.max(1, y.acts.size());
        return random.nextInt(3) == 0 ? upTo(acts) : Math.max(0, acts - 1 - upTo(Math.min(acts, 12)));
    }

    private int pieceOrNone() {
        return upTo(13) - 1;
    }

    /** Most towns begin with some who are in, and heard so. */
    private void begin() {
        for (int member = 0; member < 6; member++) {
            if (random.nextInt(4) != 0) {
                int place = 2 * member;
                both("enter", () -> y.enter(place, 0), () -> x.enter(place, 0));
            }
        }
        for (int place = 0; place < 12; place++) {
            int at = place;
            both("carryAll", () -> y.carryAll(at), () -> x.carryAll(at));
        }
        for (int k = random.nextInt(9); k > 0; k--) {
            int member = upTo(6);
            int right = upTo(6);
            both("right", () -> y.right(0, 0, member, right, true), () -> x.right(0, 0, member, right, true));
        }
        for (int bot = 4; bot < 6; bot++) {
            for (int k = random.nextInt(4); k > 0; k--) {
                rule();
            }
        }
    }

    private void step() {
        int kind = random.nextInt(100);
        if (kind < 5 * carrying) {
            carry();
        } else if (kind >= 100 - turning / 2) {
            turn();
        } else {
            act();
        }
    }

    private void carry() {
        int place = place();
        boolean isTwice = random.nextInt(4) == 0;
        int row = random.nextInt(wildness) == 0 || place < 0 || place > 11 ? 3 : y.places.get(place).way.size();
        int nth = upTo(Math.max(row, 1));
        if (random.nextInt(3) == 0) {
            both("carryAll(" + place + ")", () -> y.carryAll(place), () -> x.carryAll(place));
        } else {
            both("carry(" + place + ", " + nth + ", " + isTwice + ")",
                    () -> y.carry(place, nth, isTwice), () -> x.carry(place, nth, isTwice));
        }
    }

    private void turn() {
        int which = random.nextInt(8);
        if (which == 0) {
            both("part()", y::part, x::part);
        } else if (which == 1) {
            boolean isSecond = is();
            both("rejoin()", () -> y.rejoin(isSecond), () -> x.rejoin(isSecond));
        } else if (which < 4) {
            int member = upTo(6);
            int half = upTo(2);
            both("sit(" + member + ", " + half + ")", () -> y.sit(member, half), () -> x.sit(member, half));
        } else if (which < 6) {
            int place = place();
            boolean isOff = random.nextInt(3) == 0;
            both("off(" + place + ", " + isOff + ")", () -> y.off(place, isOff), () -> x.off(place, isOff));
        } else if (which == 6) {
            int ticks = random.nextInt(3) == 0 ? upTo(1001) : upTo(4);
            both("tick(" + ticks + ")", () -> y.tick(ticks), () -> x.tick(ticks));
        } else if (random.nextBoolean()) {
            rule();
        } else {
            int member = upTo(6);
            int piece = pieceOrNone();
            both("keyword(" + member + ", " + piece + ")",
                    () -> y.keyword(member, piece), () -> x.keyword(member, piece));
        }
    }

    private void rule() {
        int bot = 4 + upTo(2);
        int awaited = upTo(12);
        int answered = upTo(12);
        both("rule(" + bot + ", " + awaited + ", " + answered + ")",
                () -> y.rule(bot, awaited, answered), () -> x.rule(bot, awaited, answered));
    }

    private void act() {
        switch (random.nextInt(14)) {
            case 0, 1, 2, 3 -> say();
            case 4, 5, 6, 7, 8 -> aboutWord();
            case 9, 10 -> govern();
            case 11 -> tickOrRead();
            default -> comeAndGo();
        }
    }

    private void say() {
        int place = place();
        int room = room();
        int answered = random.nextInt(3) == 0 ? -1 : word();
        int a = upTo(12);
        int b = pieceOrNone();
        int c = b == -1 && random.nextInt(20) != 0 ? -1 : pieceOrNone();
        both("say(" + place + ", " + room + ", " + answered + ", " + a + ", " + b + ", " + c + ")",
                () -> y.say(place, room, answered, a, b, c), () -> x.say(place, room, answered, a, b, c));
    }

    private void aboutWord() {
        int place = place();
        int word = word();
        int number = upTo(5);
        boolean is = is();
        switch (random.nextInt(7)) {
            case 0, 1 -> {
                int a = upTo(12);
                int b = pieceOrNone();
                both("edit(" + place + ", " + word + ", " + a + ", " + b + ")",
                        () -> y.edit(place, word, a, b), () -> x.edit(place, word, a, b));
            }
            case 2 -> both("back(" + place + ", " + word + ")", () -> y.back(place, word), () -> x.back(place, word));
            case 3 -> both("mark(" + place + ", " + word + ", " + number + ", " + is + ")",
                    () -> y.mark(place, word, number, is), () -> x.mark(place, word, number, is));
            case 4 -> both("pin(" + place + ", " + word + ", " + is + ")",
                    () -> y.pin(place, word, is), () -> x.pin(place, word, is));
            default -> vote(place, word);
        }
    }

    private void vote(int place, int word) {
        int room = room();
        int options = 2 + upTo(3);
        int option = upTo(4);
        int poll = lastPoll(word);
        if (random.nextInt(4) == 0) {
            both("poll(" + place + ", " + room + ", " + options + ")",
                    () -> y.poll(place, room, options), () -> x.poll(place, room, options));
        } else {
            both("vote(" + place + ", " + poll + ", " + option + ")",
                    () -> y.vote(place, poll, option), () -> x.vote(place, poll, option));
        }
    }

    private int lastPoll(int other) {
        for (int k = y.acts.size() - 1; k >= 0; k--) {
            if (y.acts.get(k).kind.equals("poll") && random.nextInt(4) != 0) {
                return k;
            }
        }
        return other;
    }

    private void govern() {
        int place = random.nextInt(3) == 0 ? place() : upTo(2);
        int room = room();
        int member = upTo(6);
        boolean is = is();
        switch (random.nextInt(7)) {
            case 0, 1 -> {
                int right = upTo(6);
                both("right(" + place + ", " + room + ", " + member + ", " + right + ", " + is + ")",
                        () -> y.right(place, room, member, right, is), () -> x.right(place, room, member, right, is));
            }
            case 2 -> both("call(" + place + ", " + room + ", " + member + ")",
                    () -> y.call(place, room, member), () -> x.call(place, room, member));
            case 3, 4 -> both("bar(" + place + ", " + room + ", " + member + ", " + is + ")",
                    () -> y.bar(place, room, member, is), () -> x.bar(place, room, member, is));
            case 5 -> {
                int many = upTo(6);
                int span = 1 + (random.nextBoolean() ? upTo(100) : upTo(8));
                both("slow(" + place + ", " + room + ", " + many + ", " + span + ")",
                        () -> y.slow(place, room, many, span), () -> x.slow(place, room, many, span));
            }
            default -> both("lock(" + place + ", " + room + ", " + is + ")",
                    () -> y.lock(place, room, is), () -> x.lock(place, room, is));
        }
    }

    private void tickOrRead() {
        int place = place();
        int room = room();
        int ticks = upTo(12);
        if (random.nextInt(3) == 0) {
            both("read(" + place + ", " + room + ")", () -> y.read(place, room), () -> x.read(place, room));
        } else {
            both("tick(" + ticks + ")", () -> y.tick(ticks), () -> x.tick(ticks));
        }
    }

    private void comeAndGo() {
        int place = place();
        int room = room();
        if (random.nextInt(4) == 0) {
            both("leave(" + place + ", " + room + ")", () -> y.leave(place, room), () -> x.leave(place, room));
        } else {
            both("enter(" + place + ", " + room + ")", () -> y.enter(place, room), () -> x.enter(place, room));
        }
    }

    private void askAll() {
        for (int k = 0; k < 8; k++) {
            int what = k;
            both("house(" + what + ")", () -> y.house(what), () -> x.house(what));
        }
        for (int act = 0; act < y.acts.size(); act++) {
            for (int k = 0; k < 10; k++) {
                int number = act;
                int what = k;
                both("ofAct(" + number + ", " + what + ")", () -> y.ofAct(number, what), () -> x.ofAct(number, what));
            }
        }
        for (int member = 0; member < 6; member++) {
            int number = member;
            both("notices(" + number + ")", () -> y.notices(number), () -> x.notices(number));
        }
        for (int place = 0; place < 12; place++) {
            askPlace(place);
        }
        Check.same(name + "isSound()", true, x.isSound());
        askWild();
    }

    private void askPlace(int place) {
        both("way(" + place + ")", () -> y.way(place), () -> x.way(place));
        both("waiting(" + place + ")", () -> y.waiting(place), () -> x.waiting(place));
        both("summary(" + place + ")", () -> y.summary(place), () -> x.summary(place));
        for (int k = 0; k < 6; k++) {
            int what = k;
            both("ofPlace(" + place + ", " + what + ")", () -> y.ofPlace(place, what), () -> x.ofPlace(place, what));
        }
        for (int room = 0; room < 3; room++) {
            askRoom(place, room);
        }
        for (int k = 0; k < 8; k++) {
            askWord(place, word());
        }
    }

    private void askRoom(int place, int room) {
        String at = "(" + place + ", " + room + ")";
        both("drawn flat" + at, () -> y.drawn(place, room, false), () -> x.drawn(place, room, false));
        both("drawn nested" + at, () -> y.drawn(place, room, true), () -> x.drawn(place, room, true));
        both("order" + at, () -> y.order(place, room), () -> x.order(place, room));
        both("export" + at, () -> y.export(place, room), () -> x.export(place, room));
        both("again" + at, () -> y.again(place, room), () -> x.again(place, room));
        Check.same(name + "again is drawn" + at, answer(() -> x.drawn(place, room, false)),
                answer(() -> x.again(place, room)));
        for (int k = 0; k < 10; k++) {
            int what = k;
            both("ofRoom " + what + at, () -> y.ofRoom(place, room, what), () -> x.ofRoom(place, room, what));
        }
        for (int k = 0; k < 6; k++) {
            int member = k;
            both("rights " + member + at, () -> y.rights(place, room, member), () -> x.rights(place, room, member));
        }
        int piece = upTo(12);
        both("found " + piece + at, () -> y.found(place, room, piece), () -> x.found(place, room, piece));
        int many = upTo(y.heardIn(place, room).size() + 1);
        both("was " + many + at, () -> y.was(place, room, many), () -> x.was(place, room, many));
    }

    private void askWord(int place, int word) {
        both("text(" + place + ", " + word + ")", () -> y.text(place, word), () -> x.text(place, word));
        for (int k = 0; k < 10; k++) {
            int what = k;
            both("ofWord(" + place + ", " + word + ", " + what + ")",
                    () -> y.ofWord(place, word, what), () -> x.ofWord(place, word, what));
        }
        int poll = lastPoll(word);
        both("tally(" + place + ", " + poll + ")", () -> y.tally(place, poll), () -> x.tally(place, poll));
    }

    /** Questions with wrong numbers. */
    private void askWild() {
        for (int k = 0; k < 20; k++) {
            int a = random.nextBoolean() ? upTo(12) : WILD[random.nextInt(WILD.length)];
            int b = random.nextBoolean() ? upTo(3) : WILD[random.nextInt(WILD.length)];
            int c = random.nextBoolean() ? upTo(6) : WILD[random.nextInt(WILD.length)];
            String at = "(" + a + ", " + b + ", " + c + ")";
            both("ofRoom" + at, () -> y.ofRoom(a, b, c), () -> x.ofRoom(a, b, c));
            both("ofWord" + at, () -> y.ofWord(a, b, c), () -> x.ofWord(a, b, c));
            both("rights" + at, () -> y.rights(a, b, c), () -> x.rights(a, b, c));
            both("found" + at, () -> y.found(a, b, c), () -> x.found(a, b, c));
            both("was" + at, () -> y.was(a, b, c), () -> x.was(a, b, c));
            both("ofPlace" + at, () -> y.ofPlace(a, c), () -> x.ofPlace(a, c));
            both("ofAct" + at, () -> y.ofAct(a, c), () -> x.ofAct(a, c));
            both("house" + at, () -> y.house(c), () -> x.house(c));
            both("drawn" + at, () -> y.drawn(a, b, true), () -> x.drawn(a, b, true));
            both("export" + at, () -> y.export(a, b), () -> x.export(a, b));
            both("notices" + at, () -> y.notices(a), () -> x.notices(a));
            both("summary" + at, () -> y.summary(a), () -> x.summary(a));
            both("text" + at, () -> y.text(a, b), () -> x.text(a, b));
            both("tally" + at, () -> y.tally(a, b), () -> x.tally(a, b));
        }
    }
}
