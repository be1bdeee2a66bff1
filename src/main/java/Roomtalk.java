/**
 * Rooms in which people speak: members, their places, two halves of a house, and acts that come to
 * the places in any order. What a place sees of a room is always played anew from the acts it heard.
 */
public final class Roomtalk {
    private static final int NONE = -1;

    /** What an act lacks; LETS if nothing. */
    private static final int LETS = 0;
    private static final int OUT = -2;
    private static final int NO_RIGHT = -3;
    private static final int SLOW = -4;
    private static final int UNHEARD = -5;
    private static final int GONE = -6;
    private static final int SHUT = -7;
    private static final int FULL = -8;

    private static final int MEMBERS = 6;
    private static final int FIRST_BOT = 4;
    private static final int PLACES = 12;
    private static final int ROOMS = 3;
    private static final int PRIVATE_ROOM = 2;
    private static final int HALVES = 2;
    private static final int MOST_ACTS = 120;
    private static final int MOST_TICKS = 1000;
    private static final int MOST_CLOCK = 100000;
    private static final int MOST_NOTICES = 9;
    private static final int MOST_RULES = 3;
    private static final int MOST_AGE = 3;

    private static final int FIRST_CALL = 6;
    private static final int LAST_PIECE = 11;
    private static final int SIGNS = 5;
    private static final int FEWEST_OPTIONS = 2;
    private static final int MOST_OPTIONS = 4;
    private static final int MOST_MANY = 5;
    private static final int MOST_SPAN = 100;

    private static final int KIND_ENTER = 0;
    private static final int KIND_LEAVE = 1;
    private static final int KIND_SAY = 2;
    private static final int KIND_EDIT = 3;
    private static final int KIND_BACK = 4;
    private static final int KIND_MARK = 5;
    private static final int KIND_UNMARK = 6;
    private static final int KIND_PIN = 7;
    private static final int KIND_POLL = 8;
    private static final int KIND_VOTE = 9;
    private static final int KIND_RIGHT = 10;
    private static final int KIND_CALL = 11;
    private static final int KIND_BAR = 12;
    private static final int KIND_SLOW = 13;
    private static final int KIND_LOCK = 14;

    private static final int RIGHT_SPEAK = 0;
    private static final int RIGHT_EDIT = 1;
    private static final int RIGHT_TAKE_BACK = 2;
    private static final int RIGHT_PIN = 3;
    private static final int RIGHT_RULE = 4;
    private static final int RIGHT_GIVE = 5;
    private static final int SPEAK_ALONE = 1;
    private static final int ALL_RIGHTS = 63;

    private static final int WORD_FACTS = 10;
    private static final int ROOM_FACTS = 10;
    private static final int PLACE_FACTS = 6;
    private static final int ACT_FACTS = 10;
    private static final int HOUSE_FACTS = 8;
    private static final int INT_BITS = 32;
    private static final int LONG_BITS = 64;
    private static final long DIGEST_START = 5807;
    private static final long DIGEST_FACTOR = 31;

    private int clock;
    private boolean isParted;
    private int actCount;
    private int noticeCount;
    private int botWordCount;
    private int refusedCount;
    /** One more than may be made: the one behind the last made is where the next is planned. */
    private final Act[] acts = new Act[MOST_ACTS + 1];
    private final Act noAct = new Act(NONE);
    private final Line[] orders = new Line[ROOMS];
    private final Place[] places = new Place[PLACES];
    private final Place noPlace = new Place(NONE);
    private final Member[] members = new Member[MEMBERS];
    private final Member noMember = new Member(NONE);
    private final Half firstHalf = new Half();
    private final Half secondHalf = new Half();
    private final View view = new View();
    private final View otherView = new View();
    private final Sheet sheet = new Sheet();
    private final Sheet otherSheet = new Sheet();
    private final Errand errand = new Errand();

    /** Creates a house in one. */
    public Roomtalk() {
        for (int k = 0; k < acts.length; k++) {
            acts[k] = new Act(k);
        }
        for (int k = 0; k < orders.length; k++) {
            orders[k] = new Line(MOST_ACTS);
        }
        for (int k = 0; k < places.length; k++) {
            places[k] = new Place(k);
        }
        for (int k = 0; k < members.length; k++) {
            members[k] = new Member(k);
        }
    }

    // ---- time, halves, ways

    public int tick(int ticks) throws IllegalArgumentException, IllegalStateException {
        checkNumber(ticks, 0, MOST_TICKS);
        if (clock + ticks > MOST_CLOCK) {
            throw new IllegalStateException("the clock does not go on so far");
        }
        clock += ticks;
        return clock;
    }

    public int sit(int member, int half) throws IndexOutOfBoundsException {
        checkMember(member);
        if (half < 0 || half >= HALVES) {
            throw new IndexOutOfBoundsException("no such half");
        }
        Member one = memberAt(member);
        if (one.half == half) {
            return 0;
        }
        one.half = half;
        Half house = halfAt(half);
        int before = house.acts.size();
        // What a place heard holds all causes of it, so that these need not be looked for.
        house.acts.addAll(placeAt(2 * member).heard);
        house.acts.addAll(placeAt(2 * member + 1).heard);
        int came = house.acts.size() - before;
        lookRound(house);
        catchUpAll(half);
        return came;
    }

    public int part() {
        if (isParted) {
            return 0;
        }
        isParted = true;
        return 1;
    }

    public int rejoin(boolean isSecond) {
        if (!isParted) {
            return NONE;
        }
        isParted = false;
        int before = firstHalf.acts.size() + secondHalf.acts.size();
        firstHalf.acts.addAll(secondHalf.acts);
        secondHalf.acts.addAll(firstHalf.acts);
        lookRound(firstHalf);
        lookRound(secondHalf);
        for (int k = 0; k < PLACES; k++) {
            Place place = placeAt(k);
            if (!place.isOff) {
                catchUp(place, halfAt(memberAt(place.member).half));
            }
        }
        return firstHalf.acts.size() + secondHalf.acts.size() - before;
    }

    public int off(int place, boolean isOff) throws IndexOutOfBoundsException {
        checkPlace(place);
        Place at = placeAt(place);
        boolean wasOff = at.isOff;
        at.isOff = isOff;
        if (wasOff && !isOff) {
            catchUp(at, halfAt(memberAt(at.member).half));
        }
        return oneIf(wasOff);
    }

    public int carry(int place, int nth, boolean isTwice) throws IndexOutOfBoundsException {
        checkPlace(place);
        Place at = placeAt(place);
        if (nth < 0 || nth >= at.way.size) {
            throw new IndexOutOfBoundsException("nothing there on the way");
        }
        int number = at.way.get(nth);
        if (!isTwice) {
            at.way.removeAt(nth);
        }
        int before = at.heard.size();
        arrive(at, actAt(number));
        int heard = at.heard.size() - before;
        answerAsBot(at);
        return heard;
    }

    public int carryAll(int place) throws IndexOutOfBoundsException {
        checkPlace(place);
        Place at = placeAt(place);
        int before = at.heard.size();
        int row = at.way.size;
        for (int k = 0; k < row; k++) {
            int number = at.way.get(0);
            at.way.removeAt(0);
            arrive(at, actAt(number));
        }
        int heard = at.heard.size() - before;
        answerAsBot(at);
        return heard;
    }

    // ---- acts

    public int enter(int place, int room) throws IndexOutOfBoundsException {
        checkPlace(place);
        checkRoom(room);
        plan(KIND_ENTER, place, room, NONE, NONE, NONE, NONE);
        return make(place);
    }

    public int leave(int place, int room) throws IndexOutOfBoundsException {
        checkPlace(place);
        checkRoom(room);
        plan(KIND_LEAVE, place, room, NONE, NONE, NONE, NONE);
        return make(place);
    }

    public int say(int place, int room, int answered, int a, int b, int c)
            throws IndexOutOfBoundsException, IllegalArgumentException {
        checkPlace(place);
        checkRoom(room);
        checkNumber(a, 0, LAST_PIECE);
        checkNumber(b, NONE, LAST_PIECE);
        checkNumber(c, NONE, b == NONE ? NONE : LAST_PIECE);
        plan(KIND_SAY, place, room, answered, a, b, c);
        return make(place);
    }

    public int edit(int place, int word, int a, int b) throws IndexOutOfBoundsException, IllegalArgumentException {
        checkPlace(place);
        checkNumber(a, 0, LAST_PIECE);
        checkNumber(b, NONE, LAST_PIECE);
        plan(KIND_EDIT, place, roomOf(word), word, a, b, NONE);
        return make(place);
    }

    public int back(int place, int word) throws IndexOutOfBoundsException {
        checkPlace(place);
        plan(KIND_BACK, place, roomOf(word), word, NONE, NONE, NONE);
        return make(place);
    }

    public int mark(int place, int word, int sign, boolean is)
            throws IndexOutOfBoundsException, IllegalArgumentException {
        checkPlace(place);
        checkNumber(sign, 0, SIGNS - 1);
        plan(is ? KIND_MARK : KIND_UNMARK, place, roomOf(word), word, sign, NONE, NONE);
        return make(place);
    }

    public int pin(int place, int word, boolean is) throws IndexOutOfBoundsException {
        checkPlace(place);
        plan(KIND_PIN, place, roomOf(word), word, oneIf(is), NONE, NONE);
        return make(place);
    }

    public int poll(int place, int room, int options) throws IndexOutOfBoundsException, IllegalArgumentException {
        checkPlace(place);
        checkRoom(room);
        checkNumber(options, FEWEST_OPTIONS, MOST_OPTIONS);
        plan(KIND_POLL, place, room, options, NONE, NONE, NONE);
        return make(place);
    }

    public int vote(int place, int word, int option) throws IndexOutOfBoundsException, IllegalArgumentException {
        checkPlace(place);
        checkNumber(option, 0, MOST_OPTIONS - 1);
        plan(KIND_VOTE, place, roomOf(word), word, option, NONE, NONE);
        return make(place);
    }

    public int right(int place, int room, int member, int right, boolean is)
            throws IndexOutOfBoundsException, IllegalArgumentException {
        checkPlace(place);
        checkRoom(room);
        checkMember(member);
        checkNumber(right, RIGHT_SPEAK, RIGHT_GIVE);
        plan(KIND_RIGHT, place, room, member, right, oneIf(is), NONE);
        return make(place);
    }

    public int call(int place, int room, int member) throws IndexOutOfBoundsException {
        checkPlace(place);
        checkRoom(room);
        checkMember(member);
        plan(KIND_CALL, place, room, member, NONE, NONE, NONE);
        return make(place);
    }

    public int bar(int place, int room, int member, boolean is) throws IndexOutOfBoundsException {
        checkPlace(place);
        checkRoom(room);
        checkMember(member);
        plan(KIND_BAR, place, room, member, oneIf(is), NONE, NONE);
        return make(place);
    }

    public int slow(int place, int room, int many, int span)
            throws IndexOutOfBoundsException, IllegalArgumentException {
        checkPlace(place);
        checkRoom(room);
        checkNumber(many, 0, MOST_MANY);
        checkNumber(span, 1, MOST_SPAN);
        plan(KIND_SLOW, place, room, many, span, NONE, NONE);
        return make(place);
    }

    public int lock(int place, int room, boolean is) throws IndexOutOfBoundsException {
        checkPlace(place);
        checkRoom(room);
        plan(KIND_LOCK, place, room, oneIf(is), NONE, NONE, NONE);
        return make(place);
    }

    // ---- members

    public int keyword(int member, int piece) throws IndexOutOfBoundsException, IllegalArgumentException {
        checkMember(member);
        checkNumber(piece, NONE, LAST_PIECE);
        Member one = memberAt(member);
        int before = one.keyword;
        one.keyword = piece;
        return before;
    }

    public int rule(int bot, int awaited, int answered)
            throws IndexOutOfBoundsException, IllegalArgumentException, IllegalStateException {
        if (bot < FIRST_BOT || bot >= MEMBERS) {
            throw new IndexOutOfBoundsException("no such bot");
        }
        checkNumber(awaited, 0, LAST_PIECE);
        checkNumber(answered, 0, LAST_PIECE);
        Member one = memberAt(bot);
        if (one.awaited.size >= MOST_RULES) {
            throw new IllegalStateException("it has all its rules");
        }
        one.awaited.append(awaited);
        one.answers.append(answered);
        return one.awaited.size;
    }

    public int read(int place, int room) throws IndexOutOfBoundsException {
        checkPlace(place);
        checkRoom(room);
        Place at = placeAt(place);
        look(view, at.heard, room);
        int notRead = notReadOf(at, room);
        at.markAllRead(room);
        return notRead;
    }

    public String notices(int member) throws IndexOutOfBoundsException {
        checkMember(member);
        writeRow(memberAt(member).kept);
        return sheet.taken();
    }

    // ---- what a place sees

    public String drawn(int place, int room, boolean isNested) throws IndexOutOfBoundsException {
        checkPlace(place);
        checkRoom(room);
        look(view, placeAt(place).heard, room);
        view.lineUp(isNested);
        view.drawOnto(sheet, view);
        return sheet.taken();
    }

    public String was(int place, int room, int many) throws IndexOutOfBoundsException, IllegalArgumentException {
        checkPlace(place);
        checkRoom(room);
        Place at = placeAt(place);
        Line heard = at.heardIn(room);
        checkNumber(many, 0, heard.size);
        ActSet first = errand.met;
        first.clear();
        for (int k = 0; k < many; k++) {
            first.add(heard.get(k));
        }
        look(view, at.heard, room);
        look(otherView, first, room);
        otherView.lineUp(false);
        otherView.drawOnto(sheet, view);
        return sheet.taken();
    }

    public int ofWord(int place, int word, int what) throws IndexOutOfBoundsException, IllegalArgumentException {
        checkPlace(place);
        Word one = wordSeen(placeAt(place), word);
        if (!one.isThere) {
            throw new IndexOutOfBoundsException("no such word");
        }
        checkNumber(what, 0, WORD_FACTS - 1);
        return view.wordFact(one, what);
    }

    public String text(int place, int word) throws IndexOutOfBoundsException {
        checkPlace(place);
        Word one = wordSeen(placeAt(place), word);
        if (!one.isThere) {
            throw new IndexOutOfBoundsException("no such word");
        }
        sheet.clear();
        one.writeShown(sheet, one.isGone);
        return sheet.taken();
    }

    public String tally(int place, int word) throws IndexOutOfBoundsException {
        checkPlace(place);
        Word one = wordSeen(placeAt(place), word);
        if (!one.isThere || one.options == 0) {
            throw new IndexOutOfBoundsException("no such poll");
        }
        sheet.clear();
        for (int k = 0; k < one.options; k++) {
            sheet.addGap(" ");
            sheet.addNumber(one.votesFor(k));
        }
        return sheet.taken();
    }

    public String found(int place, int room, int piece) throws IndexOutOfBoundsException, IllegalArgumentException {
        checkPlace(place);
        checkRoom(room);
        checkNumber(piece, 0, LAST_PIECE);
        look(view, placeAt(place).heard, room);
        sheet.clear();
        for (int k = 0; k < view.spokenCount; k++) {
            Word word = view.spokenAt(k);
            if (!word.isGone && word.hasPiece(piece)) {
                sheet.addGap(" ");
                sheet.addNumber(word.number);
            }
        }
        return sheet.taken();
    }

    public String order(int place, int room) throws IndexOutOfBoundsException {
        checkPlace(place);
        checkRoom(room);
        Place at = placeAt(place);
        look(view, at.heard, room);
        writeOrder(at, room);
        return sheet.taken();
    }

    public String summary(int place) throws IndexOutOfBoundsException {
        checkPlace(place);
        writeSummary(placeAt(place));
        return sheet.taken();
    }

    public int ofRoom(int place, int room, int what) throws IndexOutOfBoundsException, IllegalArgumentException {
        checkPlace(place);
        checkRoom(room);
        checkNumber(what, 0, ROOM_FACTS - 1);
        Place at = placeAt(place);
        look(view, at.heard, room);
        return roomFact(at, room, what);
    }

    public int rights(int place, int room, int member) throws IndexOutOfBoundsException {
        checkPlace(place);
        checkRoom(room);
        checkMember(member);
        look(view, placeAt(place).heard, room);
        return view.rightsOf(member);
    }

    public String export(int place, int room) throws IndexOutOfBoundsException {
        checkPlace(place);
        checkRoom(room);
        Place at = placeAt(place);
        look(view, at.heard, room);
        writeExport(at, room);
        return sheet.taken();
    }

    public String again(int place, int room) throws IndexOutOfBoundsException {
        checkPlace(place);
        checkRoom(room);
        Place at = placeAt(place);
        look(view, at.heard, room);
        writeExport(at, room);
        readAgain(room);
        return otherSheet.taken();
    }

    // ---- what is asked else

    public String way(int place) throws IndexOutOfBoundsException {
        checkPlace(place);
        writeRow(placeAt(place).way);
        return sheet.taken();
    }

    public String waiting(int place) throws IndexOutOfBoundsException {
        checkPlace(place);
        writeWaiting(placeAt(place));
        return sheet.taken();
    }

    public int ofPlace(int place, int what) throws IndexOutOfBoundsException, IllegalArgumentException {
        checkPlace(place);
        checkNumber(what, 0, PLACE_FACTS - 1);
        return placeFact(placeAt(place), what);
    }

    public int ofAct(int act, int what) throws IndexOutOfBoundsException, IllegalArgumentException {
        if (act < 0 || act >= actCount) {
            throw new IndexOutOfBoundsException("no such act");
        }
        checkNumber(what, 0, ACT_FACTS - 1);
        return actFact(actAt(act), what);
    }

    public int house(int what) throws IllegalArgumentException {
        checkNumber(what, 0, HOUSE_FACTS - 1);
        return houseFact(what);
    }

    public int knock() {
        refusedCount++;
        return refusedCount;
    }

    public boolean isSound() {
        return areOrdersSound() && areHalvesSound() && arePlacesSound() && areDrawnAlike() && areReadAgain();
    }

    public long digest() {
        long d = DIGEST_START;
        for (int what = 0; what < HOUSE_FACTS; what++) {
            d = digested(d, houseFact(what));
        }
        for (int k = 0; k < actCount; k++) {
            for (int what = 0; what < ACT_FACTS; what++) {
                d = digested(d, actFact(actAt(k), what));
            }
        }
        for (int k = 0; k < PLACES; k++) {
            d = digestOfPlace(d, placeAt(k));
        }
        for (int k = 0; k < MEMBERS; k++) {
            writeRow(memberAt(k).kept);
            d = digested(d, sheet.length());
            d = digested(d, memberAt(k).keyword);
        }
        return digested(d, oneIf(isSound()));
    }

    // ---- arguments

    private static void checkPlace(int place) {
        if (place < 0 || place >= PLACES) {
            throw new IndexOutOfBoundsException("no such place");
        }
    }

    private static void checkRoom(int room) {
        if (room < 0 || room >= ROOMS) {
            throw new IndexOutOfBoundsException("no such room");
        }
    }

    private static void checkMember(int member) {
        if (member < 0 || member >= MEMBERS) {
            throw new IndexOutOfBoundsException("no such member");
        }
    }

    private static void checkNumber(int number, int least, int most) {
        if (number < least || number > most) {
            throw new IllegalArgumentException("a number that is not told of");
        }
    }

    // ---- what is where: each answers an empty one for a number that is none

    private Act actAt(int number) {
        Act act = number >= 0 && number < acts.length ? acts[number] : null;
        return act == null ? noAct : act;
    }

    private Line orderOf(int room) {
        Line order = room >= 0 && room < orders.length ? orders[room] : null;
        return order == null ? noPlace.noRow : order;
    }

    private Place placeAt(int number) {
        Place place = number >= 0 && number < places.length ? places[number] : null;
        return place == null ? noPlace : place;
    }

    private Member memberAt(int number) {
        Member member = number >= 0 && number < members.length ? members[number] : null;
        return member == null ? noMember : member;
    }

    private Half halfAt(int number) {
        return number == 0 ? firstHalf : secondHalf;
    }

    private int roomOf(int act) {
        return act >= 0 && act < actCount ? actAt(act).room : NONE;
    }

    private Word wordSeen(Place place, int word) {
        look(view, place.heard, roomOf(word));
        return view.wordAt(word);
    }

    private static int oneIf(boolean is) {
        return is ? 1 : 0;
    }

    private static boolean isOf(int set, int number) {
        return number >= 0 && number < INT_BITS && (set >>> number & 1) == 1;
    }

    private static int changed(int set, int number, boolean is) {
        if (number < 0 || number >= INT_BITS) {
            return set;
        }
        return is ? set | 1 << number : set & ~(1 << number);
    }

    // ---- making acts

    private void plan(int kind, int place, int room, int first, int second, int third, int fourth) {
        Act act = actAt(actCount);
        act.kind = kind;
        act.member = placeAt(place).member;
        act.room = room;
        act.time = clock;
        act.age = 0;
        act.first = first;
        act.second = second;
        act.third = third;
        act.fourth = fourth;
    }

    private int make(int place) {
        int made = attempt(placeAt(place));
        if (made >= 0) {
            spread(actAt(made));
        }
        return made;
    }

    /** Makes the planned act, heard by its place alone as yet; answers its number, or what it lacks. */
    private int attempt(Place place) {
        Act act = actAt(actCount);
        if (place.isOff) {
            return NONE;
        }
        if (actCount >= MOST_ACTS) {
            return FULL;
        }
        if (act.room == NONE) {
            return UNHEARD;
        }
        boolean isEntry = act.kind == KIND_ENTER;
        ActSet known = isEntry ? halfAt(memberAt(place.member).half).acts : place.heard;
        look(view, known, act.room);
        if (act.kind == KIND_SAY && act.first != NONE && !view.wordAt(act.first).isThere) {
            return UNHEARD;
        }
        int lack = view.lackOf(act);
        if (lack != LETS) {
            return lack;
        }
        enrol(act, known);
        if (!isEntry) {
            place.listen(act);
        }
        return act.number;
    }

    private void enrol(Act act, ActSet known) {
        Line order = orderOf(act.room);
        int height = 0;
        for (int k = 0; k < order.size; k++) {
            Act cause = actAt(order.get(k));
            if (known.has(cause.number)) {
                act.causes.add(cause.number);
                height = Math.max(height, cause.height + 1);
            }
        }
        act.height = height;
        int at = order.size;
        for (int k = order.size - 1; k >= 0; k--) {
            if (!act.isAheadOf(actAt(order.get(k)))) {
                break;
            }
            at = k;
        }
        order.insert(at, act.number);
        actCount++;
    }

    private void spread(Act act) {
        int home = memberAt(act.member).half;
        for (int half = 0; half < HALVES; half++) {
            if (half == home || !isParted) {
                comeTo(half, act);
            }
        }
    }

    private void comeTo(int number, Act act) {
        Half half = halfAt(number);
        if (!half.acts.holds(act.causes)) {
            half.acts.addAll(act.causes);
            look(view, half.acts, act.room);
            half.setIn(act.room, view.in);
            catchUpAll(number);
        }
        for (int k = 0; k < PLACES; k++) {
            Place place = placeAt(k);
            boolean isMeant = memberAt(place.member).half == number && half.isIn(act.room, place.member);
            if (isMeant && !place.isOff && !place.knows(act.number)) {
                place.way.append(act.number);
            }
        }
        half.acts.add(act.number);
        look(view, half.acts, act.room);
        half.setIn(act.room, view.in);
        catchUpAll(number);
    }

    // ---- on the way

    private void catchUpAll(int half) {
        for (int k = 0; k < PLACES; k++) {
            Place place = placeAt(k);
            if (!place.isOff && memberAt(place.member).half == half) {
                catchUp(place, halfAt(half));
            }
        }
    }

    private void catchUp(Place place, Half half) {
        for (int room = 0; room < ROOMS; room++) {
            if (!half.isIn(room, place.member)) {
                continue;
            }
            Line order = orderOf(room);
            for (int k = 0; k < order.size; k++) {
                int number = order.get(k);
                if (half.acts.has(number) && !place.knows(number)) {
                    place.way.append(number);
                }
            }
        }
    }

    private void lookRound(Half half) {
        for (int room = 0; room < ROOMS; room++) {
            look(view, half.acts, room);
            half.setIn(room, view.in);
        }
    }

    private void arrive(Place place, Act act) {
        if (place.heard.has(act.number) || place.waits.has(act.number)) {
            place.doubled++;
            return;
        }
        // None that waits is ready as yet: so the one that came is heard first, if it is ready.
        place.waits.add(act.number);
        for (int k = 0; k < MOST_ACTS; k++) {
            int next = firstReady(place);
            if (next == NONE) {
                break;
            }
            place.waits.remove(next);
            hear(place, actAt(next));
        }
    }

    private int firstReady(Place place) {
        for (int k = 0; k < actCount; k++) {
            if (place.waits.has(k) && place.heard.holds(actAt(k).causes)) {
                return k;
            }
        }
        return NONE;
    }

    // ---- what follows from hearing

    private void hear(Place place, Act act) {
        place.listen(act);
        if (act.member == place.member || !act.isWord()) {
            return;
        }
        look(view, place.heard, act.room);
        Word word = view.wordAt(act.number);
        if (!word.isThere || word.isGone) {
            return;
        }
        Member reader = memberAt(place.member);
        if (!reader.noticed.has(act.number) && concerns(reader, word)) {
            reader.giveNotice(act.number);
            noticeCount++;
        }
        int answer = reader.answerTo(word);
        if (answer != NONE && act.age < MOST_AGE && place.number == 2 * place.member) {
            errand.words.append(act.number);
            errand.answers.append(answer);
        }
    }

    private boolean concerns(Member reader, Word word) {
        Word answered = view.wordAt(word.answered);
        return word.hasPiece(FIRST_CALL + reader.number)
                || answered.isThere && answered.member == reader.number
                || word.hasPiece(reader.keyword);
    }

    private void answerAsBot(Place place) {
        for (int k = 0; k < errand.words.size; k++) {
            Act heard = actAt(errand.words.get(k));
            plan(KIND_SAY, place.number, heard.room, heard.number, errand.answers.get(k), NONE, NONE);
            actAt(actCount).age = heard.age + 1;
            int made = attempt(place);
            if (made >= 0) {
                spread(actAt(made));
                botWordCount++;
            }
        }
        errand.words.clear();
        errand.answers.clear();
    }

    // ---- seeing

    /** Plays what is known of a room, by its order. */
    private void look(View eyes, ActSet known, int room) {
        eyes.begin(room);
        Line order = orderOf(room);
        for (int k = 0; k < order.size; k++) {
            Act act = actAt(order.get(k));
            if (known.has(act.number)) {
                eyes.play(act, eyes.lackOf(act));
            }
        }
    }

    // ---- what is told by the view that was looked at last

    private boolean isNotRead(Place place, int act) {
        Word word = view.wordAt(act);
        return word.isThere && !word.isGone && word.member != place.member;
    }

    private int notReadOf(Place place, int room) {
        Line heard = place.heardIn(room);
        int count = 0;
        for (int k = place.markOf(room); k < heard.size; k++) {
            count += oneIf(isNotRead(place, heard.get(k)));
        }
        return count;
    }

    private int notReadFrom(Place place, int room) {
        Line heard = place.heardIn(room);
        int from = 0;
        for (int k = place.markOf(room); k < heard.size; k++) {
            if (isNotRead(place, heard.get(k))) {
                from = changed(from, actAt(heard.get(k)).member, true);
            }
        }
        return from;
    }

    private int roomFact(Place place, int room, int what) {
        switch (what) {
            case 0: return view.in;
            case 1: return view.called;
            case 2: return view.barred;
            case 3: return oneIf(view.isPrivate);
            case 4: return view.many;
            case 5: return view.span;
            case 6: return view.spokenCount;
            case 7: return view.voids.size();
            case 8: return place.heardIn(room).size;
            default: return notReadOf(place, room);
        }
    }

    private int placeFact(Place place, int what) {
        switch (what) {
            case 0: return place.heard.size();
            case 1: return place.way.size;
            case 2: return place.waits.size();
            case 3: return place.doubled;
            case 4: return oneIf(place.isOff);
            default: return memberAt(place.member).half;
        }
    }

    private int actFact(Act act, int what) {
        switch (what) {
            case 0: return act.room;
            case 1: return act.kind;
            case 2: return act.member;
            case 3: return act.time;
            case 4: return act.height;
            case 5: return act.causes.size();
            case 6: return act.first;
            case 7: return act.hasPieces() ? NONE : act.second;
            case 8: return act.hasPieces() ? NONE : act.third;
            default: return act.hasPieces() ? NONE : act.fourth;
        }
    }

    private int houseFact(int what) {
        switch (what) {
            case 0: return clock;
            case 1: return actCount;
            case 2: return firstHalf.acts.size();
            case 3: return secondHalf.acts.size();
            case 4: return oneIf(isParted);
            case 5: return noticeCount;
            case 6: return botWordCount;
            default: return refusedCount;
        }
    }

    // ---- writing

    private void writeRow(Line row) {
        sheet.clear();
        for (int k = 0; k < row.size; k++) {
            sheet.addGap(" ");
            sheet.addNumber(row.get(k));
        }
    }

    private void writeWaiting(Place place) {
        sheet.clear();
        for (int k = 0; k < actCount; k++) {
            if (place.waits.has(k)) {
                sheet.addGap(" ");
                sheet.addNumber(k);
            }
        }
    }

    private void writeOrder(Place place, int room) {
        sheet.clear();
        Line order = orderOf(room);
        for (int k = 0; k < order.size; k++) {
            int number = order.get(k);
            if (place.heard.has(number)) {
                sheet.addGap(" ");
                sheet.addNumber(number);
                if (view.voids.has(number)) {
                    sheet.addSign('!');
                }
            }
        }
    }

    private void writeSummary(Place place) {
        sheet.clear();
        for (int room = 0; room < ROOMS; room++) {
            look(view, place.heard, room);
            int count = notReadOf(place, room);
            if (count == 0) {
                continue;
            }
            sheet.addGap("; ");
            sheet.addNumber(room);
            sheet.addSign(':');
            sheet.addNumber(count);
            int from = notReadFrom(place, room);
            for (int member = 0; member < MEMBERS; member++) {
                if (isOf(from, member)) {
                    sheet.addSign('@');
                    sheet.addNumber(member);
                }
            }
        }
    }

    private void writeExport(Place place, int room) {
        sheet.clear();
        Line order = orderOf(room);
        for (int k = 0; k < order.size; k++) {
            Act act = actAt(order.get(k));
            if (place.heard.has(act.number)) {
                sheet.addGap(";");
                act.writeOnto(sheet, arePiecesGone(act));
            }
        }
    }

    private boolean arePiecesGone(Act act) {
        return act.hasPieces() && view.wordAt(act.kind == KIND_SAY ? act.number : act.first).isGone;
    }

    /** Plays the export on the one sheet, and draws it on the other. */
    private void readAgain(int room) {
        Act act = errand.copy;
        otherView.begin(room);
        sheet.rewind();
        for (int k = 0; k < MOST_ACTS && sheet.hasMore(); k++) {
            act.readFrom(sheet);
            otherView.play(act, otherView.lackOf(act));
        }
        otherView.lineUp(false);
        otherView.drawOnto(otherSheet, otherView);
    }

    // ---- soundness

    private boolean areOrdersSound() {
        for (int room = 0; room < ROOMS; room++) {
            if (!isBehindCauses(orderOf(room))) {
                return false;
            }
        }
        return true;
    }

    /** Whether each act of a row stands there once, and behind all its causes. */
    private boolean isBehindCauses(Line row) {
        ActSet met = errand.met;
        met.clear();
        for (int k = 0; k < row.size; k++) {
            Act act = actAt(row.get(k));
            if (met.has(act.number) || !met.holds(act.causes)) {
                return false;
            }
            met.add(act.number);
        }
        return true;
    }

    private boolean areHalvesSound() {
        for (int k = 0; k < actCount; k++) {
            ActSet causes = actAt(k).causes;
            if (firstHalf.acts.has(k) && !firstHalf.acts.holds(causes)) {
                return false;
            }
            if (secondHalf.acts.has(k) && !secondHalf.acts.holds(causes)) {
                return false;
            }
        }
        return true;
    }

    private boolean arePlacesSound() {
        for (int k = 0; k < PLACES; k++) {
            Place place = placeAt(k);
            if (firstReady(place) != NONE) {
                return false;
            }
            for (int room = 0; room < ROOMS; room++) {
                if (!isBehindCauses(place.heardIn(room))) {
                    return false;
                }
            }
        }
        return true;
    }

    private boolean areDrawnAlike() {
        for (int room = 0; room < ROOMS; room++) {
            for (int k = 0; k < PLACES; k++) {
                Place like = firstLike(placeAt(k), room);
                if (!isDrawnAlike(placeAt(k), like, room, false) || !isDrawnAlike(placeAt(k), like, room, true)) {
                    return false;
                }
            }
        }
        return true;
    }

    private Place firstLike(Place place, int room) {
        for (int k = 0; k < place.number; k++) {
            if (heardSame(place, placeAt(k), room)) {
                return placeAt(k);
            }
        }
        return place;
    }

    private boolean heardSame(Place one, Place other, int room) {
        Line row = one.heardIn(room);
        if (row.size != other.heardIn(room).size) {
            return false;
        }
        for (int k = 0; k < row.size; k++) {
            if (!other.heard.has(row.get(k))) {
                return false;
            }
        }
        return true;
    }

    private boolean isDrawnAlike(Place one, Place other, int room, boolean isNested) {
        if (one == other) {
            return true;
        }
        look(view, one.heard, room);
        view.lineUp(isNested);
        view.drawOnto(sheet, view);
        look(view, other.heard, room);
        view.lineUp(isNested);
        view.drawOnto(otherSheet, view);
        return sheet.isLike(otherSheet);
    }

    private boolean areReadAgain() {
        for (int k = 0; k < PLACES; k++) {
            Place place = placeAt(k);
            for (int room = 0; room < ROOMS; room++) {
                look(view, place.heard, room);
                writeExport(place, room);
                readAgain(room);
                view.lineUp(false);
                view.drawOnto(sheet, view);
                if (!sheet.isLike(otherSheet)) {
                    return false;
                }
            }
        }
        return true;
    }

    // ---- the checksum

    private static long digested(long d, long value) {
        return d * DIGEST_FACTOR + value;
    }

    private long digestOfPlace(long start, Place place) {
        long d = start;
        for (int what = 0; what < PLACE_FACTS; what++) {
            d = digested(d, placeFact(place, what));
        }
        writeRow(place.way);
        d = digested(d, sheet.length());
        writeWaiting(place);
        d = digested(d, sheet.length());
        writeSummary(place);
        d = digested(d, sheet.length());
        for (int room = 0; room < ROOMS; room++) {
            look(view, place.heard, room);
            for (int what = 0; what < ROOM_FACTS; what++) {
                d = digested(d, roomFact(place, room, what));
            }
            writeOrder(place, room);
            d = digested(d, sheet.length());
            view.lineUp(true);
            view.drawOnto(sheet, view);
            d = digested(d, sheet.length());
            writeExport(place, room);
            d = digested(d, sheet.length());
        }
        return d;
    }

    /** A set of acts. */
    private static final class ActSet {
        private long low;
        private long high;

        boolean has(int number) {
            if (number < 0 || number >= 2 * LONG_BITS) {
                return false;
            }
            long part = number < LONG_BITS ? low : high;
            return (part >>> number % LONG_BITS & 1L) == 1L;
        }

        void add(int number) {
            if (number >= 0 && number < LONG_BITS) {
                low |= 1L << number;
            } else if (number >= LONG_BITS && number < 2 * LONG_BITS) {
                high |= 1L << number - LONG_BITS;
            }
        }

        void remove(int number) {
            if (number >= 0 && number < LONG_BITS) {
                low &= ~(1L << number);
            } else if (number >= LONG_BITS && number < 2 * LONG_BITS) {
                high &= ~(1L << number - LONG_BITS);
            }
        }

        void addAll(ActSet other) {
            low |= other.low;
            high |= other.high;
        }

        boolean holds(ActSet other) {
            return (other.low & ~low) == 0L && (other.high & ~high) == 0L;
        }

        int size() {
            return Long.bitCount(low) + Long.bitCount(high);
        }

        void clear() {
            low = 0L;
            high = 0L;
        }
    }

    /** A row of numbers, of a length that is bounded from the beginning. */
    private static final class Line {
        private final int[] items;
        private int size;

        Line(int most) {
            items = new int[Math.max(most, 0)];
        }

        int get(int index) {
            return index >= 0 && index < size && index < items.length ? items[index] : NONE;
        }

        int indexOf(int number) {
            for (int k = 0; k < size && k < items.length; k++) {
                if (items[k] == number) {
                    return k;
                }
            }
            return NONE;
        }

        void append(int number) {
            if (size >= 0 && size < items.length) {
                items[size] = number;
                size++;
            }
        }

        void insert(int index, int number) {
            if (index < 0 || index > size || size >= items.length) {
                return;
            }
            for (int k = size; k > index; k--) {
                items[k] = items[k - 1];
            }
            items[index] = number;
            size++;
        }

        void removeAt(int index) {
            if (index < 0 || index >= size || size > items.length) {
                return;
            }
            for (int k = index; k < size - 1; k++) {
                items[k] = items[k + 1];
            }
            size--;
        }

        void clear() {
            size = 0;
        }
    }

    /** Where a text is written, and read; it is used again and again, so that few objects are made. */
    private static final class Sheet {
        private final StringBuilder signs = new StringBuilder();
        private int at;

        void clear() {
            signs.setLength(0);
        }

        int length() {
            return signs.length();
        }

        String taken() {
            return signs.toString();
        }

        void addSign(char sign) {
            signs.append(sign);
        }

        void addText(String text) {
            signs.append(text);
        }

        void addGap(String between) {
            if (signs.length() > 0) {
                signs.append(between);
            }
        }

        void addNumber(int number) {
            if (number < 0) {
                signs.append('-');
            }
            boolean isBegun = false;
            for (int unit = 1000000000; unit > 0; unit /= 10) {
                int digit = Math.abs(number / unit % 10);
                isBegun = isBegun || digit != 0 || unit == 1;
                if (isBegun) {
                    signs.append((char) ('0' + digit));
                }
            }
        }

        void addPiece(int piece) {
            switch (piece) {
                case 0: signs.append("hey"); break;
                case 1: signs.append("rain"); break;
                case 2: signs.append("bread"); break;
                case 3: signs.append("boat"); break;
                case 4: signs.append("yes"); break;
                case 5: signs.append("no"); break;
                default: signs.append('@'); signs.append((char) ('0' + piece - FIRST_CALL)); break;
            }
        }

        void rewind() {
            at = 0;
        }

        boolean hasMore() {
            return at < signs.length();
        }

        /** The number that begins here; the sign behind it is passed by. */
        int nextNumber() {
            int number = 0;
            boolean isBelow = false;
            for (; at >= 0 && at < signs.length(); at++) {
                char sign = signs.charAt(at);
                if (sign == '-') {
                    isBelow = true;
                } else if (sign >= '0' && sign <= '9') {
                    number = number * 10 + (sign - '0');
                } else {
                    at++;
                    break;
                }
            }
            return isBelow ? -number : number;
        }

        boolean isLike(Sheet other) {
            if (signs.length() != other.signs.length()) {
                return false;
            }
            for (int k = 0; k < signs.length() && k < other.signs.length(); k++) {
                if (signs.charAt(k) != other.signs.charAt(k)) {
                    return false;
                }
            }
            return true;
        }
    }

    /** What is done in a room, and the four numbers that it says. */
    private static final class Act {
        private int number;
        private int room;
        private int kind;
        private int member;
        private int time;
        private int height;
        private int age;
        private int first = NONE;
        private int second = NONE;
        private int third = NONE;
        private int fourth = NONE;
        private final ActSet causes = new ActSet();

        Act(int number) {
            this.number = number;
        }

        boolean isWord() {
            return kind == KIND_SAY || kind == KIND_POLL;
        }

        boolean hasPieces() {
            return kind == KIND_SAY || kind == KIND_EDIT;
        }

        boolean isAboutWord() {
            return kind >= KIND_EDIT && kind <= KIND_PIN || kind == KIND_VOTE;
        }

        boolean isAheadOf(Act other) {
            if (height != other.height) {
                return height < other.height;
            }
            if (member != other.member) {
                return member < other.member;
            }
            return number < other.number;
        }

        void writeOnto(Sheet sheet, boolean arePiecesGone) {
            sheet.addNumber(number);
            sheet.addSign(',');
            sheet.addNumber(kind);
            sheet.addSign(',');
            sheet.addNumber(member);
            sheet.addSign(',');
            sheet.addNumber(time);
            sheet.addSign(',');
            sheet.addNumber(first);
            sheet.addSign(',');
            sheet.addNumber(arePiecesGone ? NONE : second);
            sheet.addSign(',');
            sheet.addNumber(arePiecesGone ? NONE : third);
            sheet.addSign(',');
            sheet.addNumber(arePiecesGone ? NONE : fourth);
        }

        void readFrom(Sheet sheet) {
            number = sheet.nextNumber();
            kind = sheet.nextNumber();
            member = sheet.nextNumber();
            time = sheet.nextNumber();
            first = sheet.nextNumber();
            second = sheet.nextNumber();
            third = sheet.nextNumber();
            fourth = sheet.nextNumber();
        }
    }

    /** A word as a view shows it. */
    private static final class Word {
        private final int number;
        private int member;
        private int time;
        private int age;
        private int answered;
        private int options;
        private int a;
        private int b;
        private int c;
        private int depth;
        private boolean isThere;
        private boolean isGone;
        private boolean isEdited;
        private boolean isPinned;
        /** Sign by sign the set of members who put it. */
        private final int[] signs = new int[SIGNS];
        private final int[] votes = new int[MEMBERS];

        Word(int number) {
            this.number = number;
        }

        void begin(Act act) {
            boolean isPoll = act.kind == KIND_POLL;
            member = act.member;
            time = act.time;
            age = act.age;
            answered = isPoll ? NONE : act.first;
            options = isPoll ? act.first : 0;
            a = act.second;
            b = act.third;
            c = act.fourth;
            isThere = true;
            isGone = false;
            isEdited = false;
            isPinned = false;
            for (int k = 0; k < signs.length; k++) {
                signs[k] = 0;
            }
            for (int k = 0; k < votes.length; k++) {
                votes[k] = NONE;
            }
        }

        void amend(int first, int second) {
            if (options > 0) {
                return;
            }
            a = first;
            b = second;
            c = NONE;
            isEdited = true;
        }

        boolean hasPiece(int piece) {
            return piece != NONE && (a == piece || b == piece || c == piece);
        }

        void putSign(int sign, int by, boolean is) {
            int bit = by >= 0 && by < MEMBERS ? 1 << by : 0;
            if (sign >= 0 && sign < signs.length) {
                signs[sign] = is ? signs[sign] | bit : signs[sign] & ~bit;
            }
        }

        void putVote(int by, int option) {
            if (by >= 0 && by < votes.length) {
                votes[by] = option;
            }
        }

        int votesFor(int option) {
            int count = 0;
            for (int k = 0; k < votes.length; k++) {
                count += votes[k] == option ? 1 : 0;
            }
            return count;
        }

        int signCount() {
            int count = 0;
            for (int k = 0; k < signs.length; k++) {
                count += Integer.bitCount(signs[k]);
            }
            return count;
        }

        void writeShown(Sheet sheet, boolean isHidden) {
            if (isHidden) {
                sheet.addSign('-');
            } else if (options > 0) {
                sheet.addText("poll");
                sheet.addNumber(options);
            } else {
                sheet.addPiece(a);
                if (b != NONE) {
                    sheet.addSign(' ');
                    sheet.addPiece(b);
                }
                if (c != NONE) {
                    sheet.addSign(' ');
                    sheet.addPiece(c);
                }
            }
        }

        void writeHead(Sheet sheet) {
            sheet.addNumber(number);
            sheet.addSign(':');
            sheet.addNumber(member);
            sheet.addSign(':');
        }

        void writeTail(Sheet sheet) {
            if (isEdited) {
                sheet.addSign('*');
            }
            for (int k = 0; k < signs.length; k++) {
                if (signs[k] != 0) {
                    sheet.addSign('+');
                    sheet.addNumber(k);
                    sheet.addSign('x');
                    sheet.addNumber(Integer.bitCount(signs[k]));
                }
            }
            if (isPinned) {
                sheet.addSign('^');
            }
        }
    }

    /** What acts make of a room, played one by one. */
    private static final class View {
        private int room;
        private int in;
        private int called;
        private int barred;
        private boolean isPrivate;
        private int many;
        private int span;
        private int spokenCount;
        private final int[] rights = new int[MEMBERS];
        private final Word[] words = new Word[MOST_ACTS];
        private final Word noWord = new Word(NONE);
        /** The words that are not void, as they were played. */
        private final Word[] spoken = new Word[MOST_ACTS];
        /** The words as they were lined up to be drawn. */
        private final Line row = new Line(MOST_ACTS);
        private final ActSet voids = new ActSet();
        /** How many words of one member stand so many ticks before and behind another. */
        private final int[] near = new int[2 * MOST_SPAN - 1];

        View() {
            for (int k = 0; k < words.length; k++) {
                words[k] = new Word(k);
            }
        }

        void begin(int number) {
            for (int k = 0; k < spokenCount; k++) {
                spokenAt(k).isThere = false;
            }
            spokenCount = 0;
            voids.clear();
            room = number;
            in = changed(0, number, true);
            called = 0;
            barred = 0;
            isPrivate = number == PRIVATE_ROOM;
            many = 0;
            span = 0;
            for (int k = 0; k < rights.length; k++) {
                rights[k] = k == number ? ALL_RIGHTS : SPEAK_ALONE;
            }
        }

        Word wordAt(int number) {
            Word word = number >= 0 && number < words.length ? words[number] : null;
            return word != null && word.isThere ? word : noWord;
        }

        Word spokenAt(int index) {
            Word word = index >= 0 && index < spokenCount && index < spoken.length ? spoken[index] : null;
            return word == null ? noWord : word;
        }

        int rightsOf(int member) {
            return member >= 0 && member < rights.length ? rights[member] : 0;
        }

        void play(Act act, int lack) {
            if (lack != LETS) {
                voids.add(act.number);
            } else if (act.isWord()) {
                bring(act);
            } else if (act.isAboutWord()) {
                change(wordAt(act.first), act);
            } else {
                govern(act);
            }
        }

        int lackOf(Act act) {
            if (act.kind == KIND_ENTER) {
                return isOpenTo(act.member) ? LETS : SHUT;
            }
            boolean isAbout = act.isAboutWord();
            Word word = wordAt(isAbout ? act.first : NONE);
            if (isAbout && !word.isThere || act.kind == KIND_VOTE && act.second >= word.options) {
                return UNHEARD;
            }
            if (!isOf(in, act.member)) {
                return OUT;
            }
            if (!hasRightFor(act, word)) {
                return NO_RIGHT;
            }
            if (isAbout && word.isGone) {
                return GONE;
            }
            return act.isWord() && isTooFast(act) ? SLOW : LETS;
        }

        private boolean isOpenTo(int member) {
            return !isOf(barred, member) && (!isPrivate || member == room || isOf(called, member));
        }

        private boolean hasRightFor(Act act, Word word) {
            int held = act.member >= 0 && act.member < rights.length ? rights[act.member] : 0;
            boolean isOwn = word.member == act.member;
            switch (act.kind) {
                case KIND_SAY:
                case KIND_POLL:
                    return isOf(held, RIGHT_SPEAK);
                case KIND_EDIT:
                    return isOwn || isOf(held, RIGHT_EDIT);
                case KIND_BACK:
                    return isOwn || isOf(held, RIGHT_TAKE_BACK);
                case KIND_PIN:
                    return isOf(held, RIGHT_PIN);
                case KIND_RIGHT:
                    return isOf(held, RIGHT_GIVE) && isOf(held, act.second);
                case KIND_CALL:
                case KIND_BAR:
                case KIND_SLOW:
                case KIND_LOCK:
                    return isOf(held, RIGHT_RULE);
                default:
                    return true;
            }
        }

        /** Whether with this word there are too many of its member in some span in which it stands. */
        private boolean isTooFast(Act act) {
            if (many == 0) {
                return false;
            }
            int centre = MOST_SPAN - 1;
            for (int k = 0; k < near.length; k++) {
                near[k] = 0;
            }
            for (int k = 0; k < spokenCount && k < spoken.length; k++) {
                Word word = spoken[k];
                if (word != null && word.member == act.member) {
                    int at = word.time - act.time + centre;
                    if (at >= 0 && at < near.length) {
                        near[at]++;
                    }
                }
            }
            int count = 1;
            for (int last = Math.max(centre - span + 1, 0); last < centre + span && last < near.length; last++) {
                count += near[last];
                int passed = last - span;
                if (passed >= 0 && passed > centre - span && passed < near.length) {
                    count -= near[passed];
                }
                if (last >= centre && count > many) {
                    return true;
                }
            }
            return false;
        }

        private void bring(Act act) {
            Word word = act.number >= 0 && act.number < words.length ? words[act.number] : null;
            if (word == null || spokenCount < 0 || spokenCount >= spoken.length) {
                return;
            }
            word.begin(act);
            spoken[spokenCount] = word;
            spokenCount++;
        }

        private void change(Word word, Act act) {
            switch (act.kind) {
                case KIND_EDIT:
                    word.amend(act.second, act.third);
                    break;
                case KIND_BACK:
                    word.isGone = true;
                    break;
                case KIND_MARK:
                case KIND_UNMARK:
                    word.putSign(act.second, act.member, act.kind == KIND_MARK);
                    break;
                case KIND_PIN:
                    word.isPinned = act.second == 1;
                    break;
                default:
                    word.putVote(act.member, act.second);
                    break;
            }
        }

        private void govern(Act act) {
            switch (act.kind) {
                case KIND_ENTER:
                case KIND_LEAVE:
                    in = changed(in, act.member, act.kind == KIND_ENTER);
                    break;
                case KIND_RIGHT:
                    if (act.first >= 0 && act.first < rights.length) {
                        rights[act.first] = changed(rights[act.first], act.second, act.third == 1);
                    }
                    break;
                case KIND_CALL:
                    called = changed(called, act.first, true);
                    break;
                case KIND_BAR:
                    barred = changed(barred, act.first, act.second == 1);
                    in = act.second == 1 ? changed(in, act.first, false) : in;
                    break;
                case KIND_SLOW:
                    many = act.first;
                    span = act.first == 0 ? 0 : act.second;
                    break;
                default:
                    isPrivate = act.first == 1;
                    break;
            }
        }

        int wordFact(Word word, int what) {
            switch (what) {
                case 0: return word.member;
                case 1: return word.answered;
                case 2: return oneIf(word.isGone);
                case 3: return oneIf(word.isEdited && !word.isGone);
                case 4: return oneIf(word.isPinned && !word.isGone);
                case 5: return word.isGone ? 0 : word.signCount();
                case 6: return answersTo(word);
                case 7: return allBelow(word);
                case 8: return word.age;
                default: return word.options;
            }
        }

        private int answersTo(Word word) {
            int count = 0;
            for (int k = 0; k < spokenCount; k++) {
                count += oneIf(spokenAt(k).answered == word.number);
            }
            return count;
        }

        private int allBelow(Word word) {
            lineUp(true);
            return endBelow(word) - row.indexOf(word.number) - 1;
        }

        /** Where in the row a word and all that is below it ends. */
        private int endBelow(Word word) {
            int at = row.indexOf(word.number) + 1;
            for (; at < row.size; at++) {
                if (wordAt(row.get(at)).depth <= word.depth) {
                    break;
                }
            }
            return at;
        }

        /** Puts the words into the row, flat or nested. */
        void lineUp(boolean isNested) {
            row.clear();
            for (int k = 0; k < spokenCount; k++) {
                Word word = spokenAt(k);
                Word above = wordAt(isNested ? word.answered : NONE);
                word.depth = above.isThere ? above.depth + 1 : 0;
                row.insert(above.isThere ? endBelow(above) : row.size, word.number);
            }
        }

        /** Draws the row; what is taken back by the other view now shows so here, too. */
        void drawOnto(Sheet sheet, View now) {
            sheet.clear();
            for (int k = 0; k < row.size; k++) {
                Word word = wordAt(row.get(k));
                boolean isHidden = word.isGone || now.wordAt(word.number).isGone;
                sheet.addGap(" / ");
                for (int deep = 0; deep < word.depth; deep++) {
                    sheet.addSign('>');
                }
                word.writeHead(sheet);
                word.writeShown(sheet, isHidden);
                if (!isHidden) {
                    word.writeTail(sheet);
                }
            }
        }
    }

    /** A place at which a member reads. */
    private static final class Place {
        private final int number;
        private final int member;
        private boolean isOff;
        private int doubled;
        private final ActSet heard = new ActSet();
        private final ActSet waits = new ActSet();
        private final Line way = new Line(MOST_ACTS);
        /** Room by room what was heard, as it was heard. */
        private final Line[] rows = new Line[ROOMS];
        private final Line noRow = new Line(0);
        private final int[] marks = new int[ROOMS];

        Place(int number) {
            this.number = number;
            member = number < 0 ? NONE : number / 2;
            for (int k = 0; k < rows.length; k++) {
                rows[k] = new Line(MOST_ACTS);
            }
        }

        Line heardIn(int room) {
            Line row = room >= 0 && room < rows.length ? rows[room] : null;
            return row == null ? noRow : row;
        }

        void listen(Act act) {
            heard.add(act.number);
            heardIn(act.room).append(act.number);
        }

        boolean knows(int act) {
            return heard.has(act) || waits.has(act) || way.indexOf(act) != NONE;
        }

        int markOf(int room) {
            return room >= 0 && room < marks.length ? marks[room] : 0;
        }

        void markAllRead(int room) {
            if (room >= 0 && room < marks.length) {
                marks[room] = heardIn(room).size;
            }
        }
    }

    private static final class Member {
        private final int number;
        private int half;
        private int keyword = NONE;
        private final Line kept = new Line(MOST_NOTICES);
        private final ActSet noticed = new ActSet();
        private final Line awaited = new Line(MOST_RULES);
        private final Line answers = new Line(MOST_RULES);

        Member(int number) {
            this.number = number;
        }

        void giveNotice(int act) {
            if (kept.size >= MOST_NOTICES) {
                kept.removeAt(0);
            }
            kept.append(act);
            noticed.add(act);
        }

        int answerTo(Word word) {
            for (int k = 0; k < awaited.size; k++) {
                if (word.hasPiece(awaited.get(k))) {
                    return answers.get(k);
                }
            }
            return NONE;
        }
    }

    /** The acts that a half of the house has, and room by room who is in by these. */
    private static final class Half {
        private final ActSet acts = new ActSet();
        private final int[] in = new int[ROOMS];

        Half() {
            for (int room = 0; room < in.length; room++) {
                in[room] = changed(0, room, true);
            }
        }

        boolean isIn(int room, int member) {
            return room >= 0 && room < in.length && isOf(in[room], member);
        }

        void setIn(int room, int members) {
            if (room >= 0 && room < in.length) {
                in[room] = members;
            }
        }
    }

    /** What one call alone needs, kept to be used again. */
    private static final class Errand {
        private final ActSet met = new ActSet();
        private final Act copy = new Act(NONE);
        private final Line words = new Line(MOST_ACTS);
        private final Line answers = new Line(MOST_ACTS);
    }
}
