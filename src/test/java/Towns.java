/** Houses that several tests begin with, and what they do in them again and again. */
final class Towns {
    static final int PLACES = 12;
    static final int ROOMS = 3;
    static final int MEMBERS = 6;

    private Towns() {
    }

    /** Room 0 with members 0, 1 and 2 in, all of which is heard at all their places: acts 0 and 1. */
    static Roomtalk threeIn() {
        Roomtalk x = new Roomtalk();
        Check.same("enter", 0, x.enter(2, 0));
        Check.same("enter", 1, x.enter(4, 0));
        hearAll(x);
        return x;
    }

    /** Room 0 with the member 0 and the bot 4 in, heard at all their places: act 0. */
    static Roomtalk botIn() {
        Roomtalk x = new Roomtalk();
        Check.same("enter", 0, x.enter(8, 0));
        hearAll(x);
        return x;
    }

    /** Room 0 with all six members in, heard at all places: acts 0 to 4. */
    static Roomtalk allIn() {
        Roomtalk x = new Roomtalk();
        for (int member = 1; member < MEMBERS; member++) {
            Check.same("enter", member - 1, x.enter(2 * member, 0));
        }
        hearAll(x);
        return x;
    }

    static void hearAll(Roomtalk x) {
        for (int place = 0; place < PLACES; place++) {
            x.carryAll(place);
        }
    }

    /** A word of room 0 that answers none. */
    static int word(Roomtalk x, int place, int piece) {
        return x.say(place, 0, -1, piece, -1, -1);
    }

    /** Says words at place 0 until there are so many acts. */
    static void fill(Roomtalk x, int acts) {
        for (int k = x.house(1); k < acts; k++) {
            Check.same("fill", k, word(x, 0, 0));
        }
    }
}
