import java.util.List;

/** A room with members of all rights and of none, words, polls, and all that can be done there. */
final class Court {
    static final int WORD = 8;
    static final int POLL = 9;
    static final int GONE_WORD = 10;
    static final int GONE_POLL = 11;
    static final int MADE = 14;

    /** All that can be done in room 0; a word or a poll is what it is about. */
    static final List<Act> ACTS = List.of(
            new Act("enter", (x, p, w, v) -> x.enter(p, 0)),
            new Act("leave", (x, p, w, v) -> x.leave(p, 0)),
            new Act("say", (x, p, w, v) -> x.say(p, 0, -1, 0, -1, -1)),
            new Act("answer", (x, p, w, v) -> x.say(p, 0, w, 0, -1, -1)),
            new Act("edit", (x, p, w, v) -> x.edit(p, w, 1, -1)),
            new Act("back", (x, p, w, v) -> x.back(p, w)),
            new Act("mark", (x, p, w, v) -> x.mark(p, w, 0, true)),
            new Act("unmark", (x, p, w, v) -> x.mark(p, w, 0, false)),
            new Act("pin", (x, p, w, v) -> x.pin(p, w, true)),
            new Act("unpin", (x, p, w, v) -> x.pin(p, w, false)),
            new Act("poll", (x, p, w, v) -> x.poll(p, 0, 2)),
            new Act("vote", (x, p, w, v) -> x.vote(p, v, 1)),
            new Act("right", (x, p, w, v) -> x.right(p, 0, 3, 3, true)),
            new Act("no right", (x, p, w, v) -> x.right(p, 0, 3, 3, false)),
            new Act("call", (x, p, w, v) -> x.call(p, 0, 3)),
            new Act("bar", (x, p, w, v) -> x.bar(p, 0, 3, true)),
            new Act("unbar", (x, p, w, v) -> x.bar(p, 0, 3, false)),
            new Act("slow", (x, p, w, v) -> x.slow(p, 0, 1, 1)),
            new Act("lock", (x, p, w, v) -> x.lock(p, 0, true)),
            new Act("unlock", (x, p, w, v) -> x.lock(p, 0, false)));

    interface Call {
        int on(Roomtalk x, int place, int word, int poll);
    }

    record Act(String name, Call call) {
    }

    private Court() {
    }

    /**
     * Room 0, all of which is heard by members 0, 1 and 2, who are in: member 1 has all rights, 2
     * has none; there are a word and a poll of 0, and two that are taken back. Acts 0 to 13.
     */
    static Roomtalk sitting() {
        Roomtalk x = Towns.threeIn();
        for (int right = 1; right < 6; right++) {
            x.right(0, 0, 1, right, true);
        }
        x.right(0, 0, 2, 0, false);
        Check.same("word", WORD, Towns.word(x, 0, 0));
        Check.same("poll", POLL, x.poll(0, 0, 4));
        Check.same("word", GONE_WORD, Towns.word(x, 0, 0));
        Check.same("poll", GONE_POLL, x.poll(0, 0, 2));
        x.back(0, GONE_WORD);
        x.back(0, GONE_POLL);
        Towns.hearAll(x);
        Check.same("acts", MADE, x.house(1));
        return x;
    }
}
