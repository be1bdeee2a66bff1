import java.util.function.Supplier;

/** All that a house answers, as one text: by it one tells whether a call changed anything. */
final class State {
    private final Roomtalk x;
    private final StringBuilder all = new StringBuilder();

    private State(Roomtalk x) {
        this.x = x;
    }

    static String of(Roomtalk x) {
        return new State(x).whole();
    }

    private String whole() {
        for (int what = 0; what < 8; what++) {
            add(x.house(what));
        }
        for (int act = 0; act < x.house(1); act++) {
            for (int what = 0; what < 10; what++) {
                add(x.ofAct(act, what));
            }
        }
        for (int member = 0; member < Towns.MEMBERS; member++) {
            add(x.notices(member));
        }
        for (int place = 0; place < Towns.PLACES; place++) {
            addPlace(place);
        }
        // Of the keywords the checksum alone tells without changing them.
        add(x.digest());
        return all.toString();
    }

    private void addPlace(int place) {
        for (int what = 0; what < 6; what++) {
            add(x.ofPlace(place, what));
        }
        add(x.way(place));
        add(x.waiting(place));
        add(x.summary(place));
        for (int room = 0; room < Towns.ROOMS; room++) {
            addRoom(place, room);
        }
        for (int act = 0; act < x.house(1); act++) {
            addWord(place, act);
        }
    }

    private void addRoom(int place, int room) {
        for (int what = 0; what < 10; what++) {
            add(x.ofRoom(place, room, what));
        }
        for (int member = 0; member < Towns.MEMBERS; member++) {
            add(x.rights(place, room, member));
        }
        add(x.order(place, room));
        add(x.drawn(place, room, false));
        add(x.drawn(place, room, true));
        add(x.export(place, room));
        add(x.again(place, room));
        for (int many = 0; many <= x.ofRoom(place, room, 8); many++) {
            add(x.was(place, room, many));
        }
    }

    private void addWord(int place, int act) {
        Object text = answer(() -> x.text(place, act));
        add(text);
        if (text instanceof String) {
            add(answer(() -> x.tally(place, act)));
            for (int what = 0; what < 10; what++) {
                add(x.ofWord(place, act, what));
            }
        }
    }

    private static Object answer(Supplier<Object> call) {
        try {
            return call.get();
        } catch (IndexOutOfBoundsException e) {
            return e.getClass();
        }
    }

    private void add(Object answer) {
        all.append(answer).append('\n');
    }
}
