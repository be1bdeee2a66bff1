import java.math.BigInteger;

/** What follows from hearing, and what is told of it: part 5 of the description, sentence by sentence. */
public final class HearingTest {
    private HearingTest() {
    }

    public static void main(String[] args) {
        noticesOfEachMember();
        noticesForEachReason();
        noticesOfTheLastNine();
        noticesOldestFirst();
        noticesOnceEver();
        noticesByTheViewOfThatPlace();
        noticesOfAnswers();
        noticesByTheKeywordOfThen();
        noticesOfOffPlacesAndOfBarredMembers();
        marksOfReading();
        marksAreOfAPlaceAndARoom();
        notReadByTheViewNow();
        summaries();
        botsAtTheirFirstPlaces();
        botsByTheFirstRule();
        botsAnswerOthersAlone();
        botsByTheView();
        botsOfEachAge();
        botsAfterAllHearing();
        botsThatAreOff();
        botsInAFullHouse();
        botsWithABound();
        botsWithoutRight();
        drawnDeep();
        drawnWide();
        drawnByOrder();
        exportOfEachKind();
        exportOfWhatIsTakenBack();
        exportOfWhatIsVoid();
        exportOfAFullHouse();
        wasThen();
        foundInTexts();
        factsOfWords();
        factsOfRooms();
        onePlaceAfterAnother();
        soundThoughHeardOtherwise();
        housesAreApart();
        knocks();
        digestsWrapAround();
        Check.finish("HearingTest");
    }

    // ---- notices

    private static void noticesOfEachMember() {
        for (int called = 0; called < Towns.MEMBERS; called++) {
            Roomtalk x = Towns.allIn();
            Check.same("say", 5, Towns.word(x, called == 0 ? 2 : 0, 6 + called));
            Towns.hearAll(x);
            for (int member = 0; member < Towns.MEMBERS; member++) {
                Check.same("the called one alone", member == called ? "5" : "", x.notices(member));
            }
            Check.same("notices ever", 1, x.house(5));
        }
    }

    private static void noticesForEachReason() {
        Roomtalk x = Towns.threeIn();
        Check.same("called by the second piece", 2, x.say(0, 0, -1, 0, 7, -1));
        Check.same("called by the third piece", 3, x.say(0, 0, -1, 0, 0, 7));
        Check.same("oneself", 4, Towns.word(x, 2, 7));
        Towns.hearAll(x);
        Check.same("answers one's own", 5, x.say(0, 0, 4, 0, -1, -1));
        Check.same("answers another", 6, x.say(0, 0, 5, 0, -1, -1));
        Check.same("answers oneself", 7, x.say(3, 0, 4, 7, -1, -1));
        Check.same("no reason", 8, x.say(0, 0, -1, 6, 8, 9));
        Check.same("a poll", 9, x.poll(0, 0, 2));
        Towns.hearAll(x);
        Check.same("notices", "2 3 5", x.notices(1));
        Check.same("keyword", -1, x.keyword(1, 4));
        Check.same("by the keyword", 10, Towns.word(x, 0, 4));
        Check.same("by the keyword, in the third piece", 11, x.say(0, 0, -1, 0, 0, 4));
        Check.same("for all reasons at once", 12, x.say(0, 0, 4, 7, 4, 7));
        Check.same("another piece", 13, Towns.word(x, 0, 5));
        Check.same("by oneself", 14, Towns.word(x, 2, 4));
        Towns.hearAll(x);
        Check.same("one each", "2 3 5 10 11 12", x.notices(1));
        Check.same("of member 2", "8", x.notices(2));
        Check.same("keyword, called by name", 4, x.keyword(1, 11));
        Check.same("calls another", 15, Towns.word(x, 0, 11));
        Towns.hearAll(x);
        Check.same("it is a piece, too", "2 3 5 10 11 12 15", x.notices(1));
        Check.same("no keyword", 11, x.keyword(1, -1));
        Check.same("no reason", 16, Towns.word(x, 0, 11));
        Towns.hearAll(x);
        Check.same("no more", "2 3 5 10 11 12 15", x.notices(1));
        Check.same("of member 0, whom nobody else called or answered", "", x.notices(0));
        Check.same("notices ever, of both", 8, x.house(5));
    }

    private static void noticesOfTheLastNine() {
        Roomtalk x = Towns.threeIn();
        StringBuilder nine = new StringBuilder();
        for (int k = 2; k < 11; k++) {
            Towns.word(x, 0, 7);
            x.carryAll(2);
            nine.append(nine.length() == 0 ? "" : " ").append(k);
            Check.same("so many", nine.toString(), x.notices(1));
        }
        Check.same("nine", "2 3 4 5 6 7 8 9 10", x.notices(1));
        Check.same("nine ever", 9, x.house(5));
        Towns.word(x, 0, 7);
        x.carryAll(2);
        Check.same("the tenth, without the first", "3 4 5 6 7 8 9 10 11", x.notices(1));
        Check.same("ten ever", 10, x.house(5));
        Towns.fill(x, 100);
        for (int k = 100; k < 120; k++) {
            Towns.word(x, 0, 7);
        }
        x.carryAll(2);
        Check.same("the last of all", "111 112 113 114 115 116 117 118 119", x.notices(1));
        Check.same("thirty ever", 30, x.house(5));
    }

    private static void noticesOldestFirst() {
        Roomtalk x = Towns.threeIn();
        Check.same("member 0", 2, Towns.word(x, 0, 7));
        Check.same("member 2", 3, Towns.word(x, 4, 7));
        x.carry(2, 1, false);
        x.carryAll(2);
        Check.same("as they were heard", "3 2", x.notices(1));
    }

    private static void noticesOnceEver() {
        Roomtalk x = Towns.threeIn();
        for (int k = 2; k < 13; k++) {
            Towns.word(x, 0, 7);
        }
        x.carry(2, 0, true);
        x.carryAll(2);
        Check.same("the last nine", "4 5 6 7 8 9 10 11 12", x.notices(1));
        Check.same("ever", 11, x.house(5));
        Check.same("at the other place", 11, x.carryAll(3));
        Check.same("none again, though two are not kept any more", "4 5 6 7 8 9 10 11 12", x.notices(1));
        Check.same("ever", 11, x.house(5));
        Check.same("the other place first", 13, Towns.word(x, 0, 7));
        x.carryAll(3);
        Check.same("notice", "5 6 7 8 9 10 11 12 13", x.notices(1));
        x.carryAll(2);
        Check.same("once", "5 6 7 8 9 10 11 12 13", x.notices(1));
        Check.same("another place of another member", 0, x.notices(2).length());
    }

    private static void noticesByTheViewOfThatPlace() {
        Roomtalk x = Towns.threeIn();
        Check.same("SPEAK is taken", 2, x.right(0, 0, 1, 0, false));
        Check.same("a word that calls member 2", 3, Towns.word(x, 2, 8));
        Check.same("way", "2 3", x.way(4));
        x.carryAll(4);
        Check.same("void by the view of that place", "", x.notices(2));
        x.carry(5, 1, false);
        Check.same("not void by the view of the other one", "3", x.notices(2));
        x.carryAll(5);
        Check.same("it stays, though it is void then", "3", x.notices(2));
        Check.same("void at both", x.order(4, 0), x.order(5, 0));
        Roomtalk y = new Roomtalk();
        Check.same("act 0 is a word", 0, Towns.word(y, 0, 0));
        y.enter(2, 0);
        Towns.hearAll(y);
        y.keyword(0, 0);
        Check.same("SPEAK is taken", 2, y.right(0, 0, 1, 0, false));
        Check.same("it has the keyword, answers and calls", 3, y.say(2, 0, 0, 0, 6, -1));
        Towns.hearAll(y);
        Check.same("but is void", "", y.notices(0));
    }

    private static void noticesOfAnswers() {
        Roomtalk x = Towns.threeIn();
        Check.same("a word of member 1", 2, Towns.word(x, 2, 0));
        x.carryAll(4);
        Check.same("an answer to it", 3, x.say(4, 0, 2, 0, -1, -1));
        Check.same("SPEAK is taken", 4, x.right(0, 0, 1, 0, false));
        Check.same("way", "2 3 4", x.way(3));
        x.carry(3, 2, false);
        x.carryAll(3);
        Check.same("not void itself", "0 1 4 2! 3", x.order(3, 0));
        Check.same("but what it answers is", "", x.notices(1));
        x.carry(2, 0, false);
        Check.same("at the other place that is not void as yet", "3", x.notices(1));

        Roomtalk y = Towns.threeIn();
        Towns.word(y, 2, 0);
        Towns.hearAll(y);
        Check.same("taken back", 3, y.back(2, 2));
        Check.same("an answer", 4, y.say(0, 0, 2, 0, -1, -1));
        y.carryAll(3);
        Check.same("what it answers may be taken back", "4", y.notices(1));

        Roomtalk z = Towns.threeIn();
        Check.same("a word", 2, Towns.word(z, 0, 0));
        Check.same("that calls after it is edited", 3, z.edit(0, 2, 7, -1));
        z.carry(2, 1, false);
        z.carryAll(2);
        Check.same("it did not as it was heard", "", z.notices(1));
        Check.same("a word that calls", 4, Towns.word(z, 0, 7));
        Check.same("taken back", 5, z.back(0, 4));
        z.carry(2, 1, false);
        z.carryAll(2);
        Check.same("it was not as it was heard", "4", z.notices(1));
    }

    private static void noticesByTheKeywordOfThen() {
        Roomtalk x = Towns.threeIn();
        x.keyword(1, 3);
        Check.same("say", 2, Towns.word(x, 0, 3));
        x.keyword(1, 4);
        x.carryAll(2);
        Check.same("not the keyword any more", "", x.notices(1));
        x.keyword(1, 3);
        Check.same("already heard there", "", x.notices(1));
        x.carryAll(3);
        Check.same("the keyword as it is heard at the other place", "2", x.notices(1));
        for (int piece = 0; piece < 12; piece++) {
            Roomtalk y = Towns.threeIn();
            Check.same("keyword", -1, y.keyword(1, piece));
            for (int said = 0; said < 12; said++) {
                Towns.word(y, 0, said);
            }
            y.carryAll(2);
            int by = 2 + piece;
            Check.same("the keyword, and the call", piece == 7 ? "9" : by < 9 ? by + " 9" : "9 " + by, y.notices(1));
        }
    }

    private static void noticesOfOffPlacesAndOfBarredMembers() {
        Roomtalk x = Towns.threeIn();
        Check.same("say", 2, Towns.word(x, 0, 7));
        Check.same("say", 3, Towns.word(x, 0, 7));
        Check.same("bar", 4, x.bar(0, 0, 1, true));
        x.off(2, true);
        x.carry(2, 2, false);
        x.carryAll(2);
        Check.same("it is heard all the same", "2 3", x.notices(1));
        Check.same("and waits no more", "", x.waiting(2));
    }

    // ---- marks of reading

    private static void marksOfReading() {
        Roomtalk x = Towns.threeIn();
        Check.same("no words", 0, x.ofRoom(2, 0, 9));
        Check.same("read", 0, x.read(2, 0));
        Towns.word(x, 0, 0);
        x.mark(0, 2, 0, true);
        x.poll(0, 0, 2);
        Towns.word(x, 0, 0);
        Check.same("not heard as yet", 0, x.ofRoom(2, 0, 9));
        x.carry(2, 0, false);
        Check.same("the first one", 1, x.ofRoom(2, 0, 9));
        x.carry(2, 0, false);
        Check.same("no word", 1, x.ofRoom(2, 0, 9));
        x.carryAll(2);
        Check.same("a poll is a word, too", 3, x.ofRoom(2, 0, 9));
        Check.same("of oneself none", 6, Towns.word(x, 2, 0));
        Check.same("not read", 3, x.ofRoom(2, 0, 9));
        Check.same("read", 3, x.read(2, 0));
        Check.same("nothing behind the mark", 0, x.ofRoom(2, 0, 9));
        Check.refused("nothing behind the mark", x, 0, () -> x.read(2, 0));
        Check.same("one more", 7, Towns.word(x, 0, 0));
        x.carryAll(2);
        Check.same("one behind the mark", 1, x.ofRoom(2, 0, 9));
        Check.same("taken back", 8, x.back(0, 7));
        x.carryAll(2);
        Check.same("none", 0, x.ofRoom(2, 0, 9));
        Check.same("an off place is read, too", 0, x.off(2, true));
        Check.same("read", 0, x.read(2, 0));
    }

    private static void marksAreOfAPlaceAndARoom() {
        Roomtalk x = Towns.threeIn();
        x.enter(0, 1);
        x.carryAll(0);
        x.carryAll(2);
        Towns.word(x, 0, 0);
        x.say(0, 1, -1, 0, -1, -1);
        x.say(0, 1, -1, 0, -1, -1);
        Towns.hearAll(x);
        Check.same("read room 1", 2, x.read(2, 1));
        Check.same("room 0 is not read", 1, x.ofRoom(2, 0, 9));
        Check.same("the other place is not read", 2, x.ofRoom(3, 1, 9));
        Check.same("summary", "0:1@0", x.summary(2));
        Check.same("summary", "0:1@0; 1:2@0", x.summary(3));
        Check.same("read room 0", 1, x.read(2, 0));
        Check.same("summary", "", x.summary(2));
        Check.same("a room that is not heard of", 0, x.read(2, 2));
    }

    private static void notReadByTheViewNow() {
        Roomtalk x = Court.sitting();
        x.right(0, 0, 2, 0, true);
        Towns.hearAll(x);
        for (int place = 0; place < 6; place++) {
            x.read(place, 0);
        }
        Check.same("member 1 bars member 2", 15, x.bar(2, 0, 2, true));
        Check.same("member 2 says", 16, Towns.word(x, 4, 0));
        Check.same("member 1 has RULE no more, ahead of that", 17, x.right(0, 0, 1, 4, false));
        Check.same("way", "15 16 17", x.way(1));
        x.carry(1, 1, false);
        Check.same("not void without the bar", 1, x.ofRoom(1, 0, 9));
        x.carry(1, 0, false);
        Check.same("void by the bar", 0, x.ofRoom(1, 0, 9));
        Check.same("void by the bar", "", x.summary(1));
        Check.same("read", 0, x.read(1, 0));
        x.carryAll(1);
        Check.same("not void any more", "hey", x.text(1, 16));
        Check.same("but ahead of the mark", 0, x.ofRoom(1, 0, 9));
        x.carryAll(0);
        Check.same("where one did not read", 1, x.ofRoom(0, 0, 9));
        Check.same("where one did not read", "0:1@2", x.summary(0));
    }

    private static void summaries() {
        Roomtalk x = Towns.allIn();
        for (int member = 0; member < 5; member++) {
            Towns.word(x, 2 * member, 0);
            Towns.word(x, 2 * member, 0);
        }
        Towns.hearAll(x);
        Check.same("all that said some", "0:10@0@1@2@3@4", x.summary(10));
        Check.same("without oneself", "0:8@0@1@3@4", x.summary(4));
        Check.same("taken back", x.house(1), x.back(0, 5));
        Check.same("taken back", x.house(1), x.back(0, 6));
        Towns.hearAll(x);
        Check.same("member 0 said none of these any more", "0:8@1@2@3@4", x.summary(10));
    }

    // ---- bots

    private static void botsAtTheirFirstPlaces() {
        for (int bot = 4; bot < 6; bot++) {
            Roomtalk x = new Roomtalk();
            Check.same("enter", 0, x.enter(2 * bot, 0));
            Towns.hearAll(x);
            x.rule(bot, 0, 1);
            Check.same("say", 1, Towns.word(x, 0, 0));
            Check.same("at its second place", 1, x.carryAll(2 * bot + 1));
            Check.same("nothing is answered", 2, x.house(1));
            Check.same("at its first place", 1, x.carry(2 * bot, 0, true));
            Check.same("one is", 3, x.house(1));
            Check.same("words of bots", 1, x.house(6));
            Check.same("what it says", "0 2 " + bot + " 0 2 2 1", first7(x, 2));
            Check.same("what it says", "rain", x.text(2 * bot, 2));
            Check.same("the way of the first place", "1", x.way(2 * bot));
            Check.same("the way of the second place", "2", x.way(2 * bot + 1));
            Check.same("doubled", 0, x.carryAll(2 * bot));
            Check.same("nothing is answered twice", 3, x.house(1));
        }
        Roomtalk y = Towns.threeIn();
        y.rule(4, 0, 1);
        Towns.word(y, 0, 0);
        Towns.hearAll(y);
        Check.same("a bot that is not in hears nothing", 3, y.house(1));
    }

    private static String first7(Roomtalk x, int act) {
        StringBuilder all = new StringBuilder();
        for (int what = 0; what < 7; what++) {
            all.append(what == 0 ? "" : " ").append(x.ofAct(act, what));
        }
        return all.toString();
    }

    private static void botsByTheFirstRule() {
        Roomtalk x = Towns.botIn();
        x.rule(4, 2, 10);
        x.rule(4, 0, 11);
        Check.same("none", "", answerTo(x, 1, 3, 5));
        Check.same("by the second rule", "@5", answerTo(x, 0, -1, -1));
        Check.same("by the first one told, not by the first piece", "@4", answerTo(x, 0, 1, 2));
        Check.same("by the first one told, not by the first piece", "@4", answerTo(x, 0, 2, -1));
        x.rule(4, 2, 1);
        Check.same("by the first one of the same piece", "@4", answerTo(x, 2, 2, 2));
        Check.same("one answer to each", 4, x.house(6));
        Roomtalk y = Towns.botIn();
        Towns.word(y, 0, 0);
        y.carryAll(8);
        y.rule(4, 0, 1);
        Check.same("what was heard ahead of the rule", 0, y.house(6));
        y.carryAll(9);
        Check.same("nor at the second place", 0, y.house(6));
        Roomtalk z = Towns.botIn();
        z.rule(4, 0, 0);
        z.rule(4, 1, 0);
        z.rule(4, 2, 0);
        for (int piece = 0; piece < 4; piece++) {
            Check.same("each of three rules", piece < 3 ? "hey" : "", answerTo(z, piece, -1, -1));
        }
    }

    private static String answerTo(Roomtalk x, int a, int b, int c) {
        Check.same("said", x.house(1), x.say(0, 0, -1, a, b, c));
        int acts = x.house(1);
        x.carryAll(8);
        return x.house(1) == acts ? "" : x.text(8, acts);
    }

    private static void botsAnswerOthersAlone() {
        Roomtalk x = Towns.botIn();
        x.rule(4, 0, 0);
        Check.same("of its own, at its second place", 1, Towns.word(x, 9, 0));
        Check.same("heard", 1, x.carryAll(8));
        Check.same("not answered", 2, x.house(1));
        Check.same("a poll", 2, x.poll(0, 0, 2));
        Check.same("edited into it", 4, x.edit(0, Towns.word(x, 0, 1), 0, -1));
        Check.same("heard", 3, x.carryAll(8));
        Check.same("not answered", 5, x.house(1));
        Check.same("words of bots", 0, x.house(6));
        Check.same("its answer has what it awaits", 5, Towns.word(x, 0, 0));
        x.carryAll(8);
        x.carryAll(8);
        Check.same("it does not answer itself", 7, x.house(1));
    }

    private static Roomtalk botAndThree() {
        Roomtalk x = Towns.threeIn();
        Check.same("enter", 2, x.enter(8, 0));
        Towns.hearAll(x);
        x.rule(4, 0, 1);
        return x;
    }

    private static void botsByTheView() {
        Roomtalk x = botAndThree();
        Check.same("a word", 3, Towns.word(x, 2, 0));
        Check.same("SPEAK is taken ahead of it", 4, x.right(0, 0, 1, 0, false));
        x.carry(8, 1, false);
        Check.same("heard", 1, x.carryAll(8));
        Check.same("void as it is heard", 0, x.house(6));

        Roomtalk y = botAndThree();
        Towns.word(y, 2, 0);
        y.right(0, 0, 1, 0, false);
        Check.same("both by one call", 2, y.carryAll(8));
        Check.same("void as it is answered", 0, y.house(6));
        Check.same("acts", 5, y.house(1));

        Roomtalk z = botAndThree();
        Towns.word(z, 2, 0);
        z.right(0, 0, 1, 0, false);
        z.carry(8, 0, false);
        Check.same("void only after that", 1, z.house(6));

        Roomtalk u = botAndThree();
        Towns.word(u, 0, 0);
        u.back(0, 3);
        Check.same("both by one call", 2, u.carryAll(8));
        Check.same("taken back as it is answered, which is let", 5, u.house(6) + u.house(1) - 2);
        Check.same("drawn", "3:0:- / >5:4:rain", u.drawn(8, 0, true));
    }

    /** Two bots that answer each other. */
    private static void botsOfEachAge() {
        Roomtalk x = new Roomtalk();
        x.enter(8, 0);
        x.enter(10, 0);
        Towns.hearAll(x);
        x.rule(4, 0, 1);
        x.rule(5, 1, 0);
        Check.same("age 0", 2, Towns.word(x, 0, 0));
        x.carryAll(8);
        Check.same("age 0 is answered", 4, x.house(1));
        Check.same("age", 1, x.ofWord(8, 3, 8));
        x.carryAll(10);
        Check.same("age 1 is answered", 5, x.house(1));
        Check.same("age", 2, x.ofWord(10, 4, 8));
        x.carryAll(8);
        Check.same("age 2 is answered", 6, x.house(1));
        Check.same("age", 3, x.ofWord(8, 5, 8));
        Check.same("age 3 is heard", 1, x.carryAll(10));
        Check.same("age 3 is not answered", 6, x.house(1));
        Check.same("words of bots", 3, x.house(6));
        x.carryAll(0);
        Check.same("by hand", 6, x.say(0, 0, 5, 1, -1, -1));
        Check.same("all others have the age 0", 0, x.ofWord(0, 6, 8));
        x.carryAll(10);
        Check.same("age 0 is answered", 8, x.house(1));
        Check.same("1 more", 1, x.ofWord(10, 7, 8));
        Check.same("a bot by hand", 8, x.say(10, 0, 7, 0, -1, -1));
        Check.same("all others have the age 0", 0, x.ofWord(10, 8, 8));
        Check.same("a poll", 9, x.poll(0, 0, 2));
        Check.same("all others have the age 0", 0, x.ofWord(0, 9, 8));
    }

    private static void botsAfterAllHearing() {
        Roomtalk x = botAndThree();
        Check.same("member 0", 3, Towns.word(x, 0, 0));
        Towns.hearAll(x);
        x.off(8, true);
        Check.same("what both others lack", 5, Towns.word(x, 0, 2));
        Towns.hearAll(x);
        Check.same("member 2", 6, Towns.word(x, 4, 0));
        Check.same("member 1", 7, Towns.word(x, 2, 0));
        x.off(8, false);
        Check.same("by order", "5 7 6", x.way(8));
        x.carry(8, 2, false);
        x.carry(8, 1, false);
        Check.same("three by one call", 3, x.carry(8, 0, false));
        Check.same("one after the other, as they were heard", "6 7", x.ofAct(8, 6) + " " + x.ofAct(9, 6));
        Check.same("all that was heard by then is a cause", x.house(1) - 2, x.ofAct(8, 5));
        Check.same("its first answer, too", x.house(1) - 1, x.ofAct(9, 5));
    }

    private static void botsThatAreOff() {
        Roomtalk x = Towns.botIn();
        x.rule(4, 0, 1);
        Towns.word(x, 0, 0);
        x.off(8, true);
        Check.same("heard", 1, x.carryAll(8));
        Check.same("it comes to nothing", 0, x.house(6));
        x.off(8, false);
        Check.same("for good", 2, x.house(1));
        Check.same("for good", 0, x.carryAll(8));
        Towns.word(x, 0, 0);
        Check.same("the next one", 1, x.carryAll(8));
        Check.same("is answered", 1, x.house(6));
    }

    private static void botsInAFullHouse() {
        Roomtalk x = Towns.botIn();
        x.rule(4, 0, 1);
        Towns.fill(x, 119);
        Check.same("118 words by one call", 118, x.carryAll(8));
        Check.same("the first one alone is answered", 120, x.house(1));
        Check.same("words of bots", 1, x.house(6));
        Check.same("it answers the first one", 1, x.ofAct(119, 6));
        Roomtalk y = Towns.botIn();
        y.rule(4, 0, 1);
        Towns.fill(y, 120);
        Check.same("119 words by one call", 119, y.carryAll(8));
        Check.same("none is answered", 120, y.house(1));
        Check.same("words of bots", 0, y.house(6));
        Roomtalk z = Towns.botIn();
        z.rule(4, 0, 1);
        Towns.fill(z, 60);
        Check.same("59 words by one call", 59, z.carryAll(8));
        Check.same("all are answered", 119, z.house(1));
        Check.same("words of bots", 59, z.house(6));
    }

    private static void botsWithABound() {
        Roomtalk x = Towns.botIn();
        x.slow(0, 0, 2, 10);
        x.rule(4, 0, 1);
        x.carryAll(8);
        Towns.word(x, 0, 0);
        Towns.word(x, 0, 0);
        x.tick(10);
        Towns.word(x, 0, 0);
        Check.same("three by one call", 3, x.carryAll(8));
        Check.same("two are answered", 2, x.house(6));
        Check.same("acts", 7, x.house(1));
        x.tick(10);
        Towns.word(x, 0, 0);
        x.carryAll(8);
        Check.same("behind the span one more is", 3, x.house(6));
    }

    private static void botsWithoutRight() {
        Roomtalk x = Towns.botIn();
        x.rule(4, 0, 1);
        Towns.word(x, 0, 0);
        x.right(0, 0, 4, 0, false);
        Check.same("both by one call", 2, x.carryAll(8));
        Check.same("it has no right by then", 0, x.house(6));
        Check.same("the next word", 3, Towns.word(x, 0, 0));
        Check.same("is not aged by what came to nothing", 0, x.ofWord(0, 3, 8));
        Roomtalk y = Towns.botIn();
        y.rule(4, 0, 1);
        Towns.word(y, 0, 0);
        y.bar(0, 0, 4, true);
        Check.same("both by one call", 2, y.carryAll(8));
        Check.same("it is out by then", 0, y.house(6));
        Roomtalk z = Towns.botIn();
        z.rule(4, 0, 1);
        Towns.word(z, 0, 0);
        z.bar(0, 0, 4, true);
        Check.same("one by one call", 1, z.carry(8, 0, false));
        Check.same("it is in by its view as yet", 1, z.house(6));
    }

    // ---- drawn

    /** Each word answers the one before it. */
    private static void drawnDeep() {
        Roomtalk x = new Roomtalk();
        StringBuilder nested = new StringBuilder();
        for (int k = 0; k < 120; k++) {
            Check.same("say", k, x.say(0, 0, k - 1, k % 12, -1, -1));
            nested.append(k == 0 ? "" : " / ").append(">".repeat(k)).append(k).append(":0:").append(x.text(0, k));
        }
        Check.same("nested", nested.toString(), x.drawn(0, 0, true));
        Check.same("flat", nested.toString().replace(">", ""), x.drawn(0, 0, false));
        for (int k = 0; k < 120; k++) {
            Check.same("answers", k == 119 ? 0 : 1, x.ofWord(0, k, 6));
            Check.same("below, in all", 119 - k, x.ofWord(0, k, 7));
            Check.same("age", 0, x.ofWord(0, k, 8));
        }
        Check.same("sound", true, x.isSound());
    }

    /** Each word answers the first one. */
    private static void drawnWide() {
        Roomtalk x = new Roomtalk();
        Check.same("say", 0, Towns.word(x, 0, 0));
        StringBuilder nested = new StringBuilder("0:0:hey");
        for (int k = 1; k < 120; k++) {
            Check.same("say", k, x.say(0, 0, 0, 5, -1, -1));
            nested.append(" / >").append(k).append(":0:no");
        }
        Check.same("nested", nested.toString(), x.drawn(0, 0, true));
        Check.same("answers", 119, x.ofWord(0, 0, 6));
        Check.same("below, in all", 119, x.ofWord(0, 0, 7));
        Check.same("words", 120, x.ofRoom(0, 0, 6));
    }

    private static void drawnByOrder() {
        Roomtalk x = Towns.threeIn();
        Check.same("a word", 2, Towns.word(x, 0, 0));
        Towns.hearAll(x);
        Check.same("an answer of member 2", 3, x.say(4, 0, 2, 1, -1, -1));
        Check.same("an answer of member 1", 4, x.say(2, 0, 2, 2, -1, -1));
        Check.same("an answer to that one", 5, x.say(2, 0, 4, 3, -1, -1));
        Check.same("a word of member 0", 6, Towns.word(x, 0, 4));
        Towns.hearAll(x);
        Check.same("nested, by order", "2:0:hey / >4:1:bread / >>5:1:boat / >3:2:rain / 6:0:yes", x.drawn(1, 0, true));
        Check.same("flat, by order", "2:0:hey / 6:0:yes / 4:1:bread / 3:2:rain / 5:1:boat", x.drawn(1, 0, false));
        Check.same("taken back", 7, x.back(2, 4));
        Towns.hearAll(x);
        Check.same("its answers stay below it", "2:0:hey / >4:1:- / >>5:1:boat / >3:2:rain / 6:0:yes",
                x.drawn(1, 0, true));
        Check.same("it counts as an answer", 2, x.ofWord(1, 2, 6));
        Check.same("it counts as below", 3, x.ofWord(1, 2, 7));
        Check.same("its own answers count", 1, x.ofWord(1, 4, 6));
    }

    // ---- export

    private static Roomtalk eachKind() {
        Roomtalk x = Towns.threeIn();
        x.tick(1000);
        x.say(0, 0, -1, 11, -1, -1);
        x.say(0, 0, 2, 0, 5, 9);
        x.edit(0, 3, 1, 2);
        x.edit(0, 2, 3, -1);
        x.mark(0, 3, 4, true);
        x.mark(0, 3, 4, false);
        x.pin(0, 3, true);
        x.pin(0, 3, false);
        x.poll(0, 0, 4);
        x.vote(0, 10, 3);
        x.edit(0, 10, 4, 5);
        x.right(0, 0, 5, 5, true);
        x.right(0, 0, 5, 5, false);
        x.call(0, 0, 5);
        x.bar(0, 0, 5, true);
        x.bar(0, 0, 5, false);
        x.slow(0, 0, 0, 100);
        x.slow(0, 0, 5, 1);
        x.lock(0, 0, true);
        x.lock(0, 0, false);
        return x;
    }

    private static void exportOfEachKind() {
        Roomtalk x = eachKind();
        String due = "0,0,1,0,-1,-1,-1,-1;1,0,2,0,-1,-1,-1,-1;2,2,0,1000,-1,11,-1,-1;3,2,0,1000,2,0,5,9;"
                + "4,3,0,1000,3,1,2,-1;5,3,0,1000,2,3,-1,-1;6,5,0,1000,3,4,-1,-1;7,6,0,1000,3,4,-1,-1;"
                + "8,7,0,1000,3,1,-1,-1;9,7,0,1000,3,0,-1,-1;10,8,0,1000,4,-1,-1,-1;11,9,0,1000,10,3,-1,-1;"
                + "12,3,0,1000,10,4,5,-1;13,10,0,1000,5,5,1,-1;14,10,0,1000,5,5,0,-1;15,11,0,1000,5,-1,-1,-1;"
                + "16,12,0,1000,5,1,-1,-1;17,12,0,1000,5,0,-1,-1;18,13,0,1000,0,100,-1,-1;19,13,0,1000,5,1,-1,-1;"
                + "20,14,0,1000,1,-1,-1,-1;21,14,0,1000,0,-1,-1,-1";
        Check.same("export", due, x.export(0, 0));
        Check.same("again", "2:0:boat* / 3:0:rain bread* / 10:0:poll4", x.again(0, 0));
        Check.same("again is drawn flat", x.drawn(0, 0, false), x.again(0, 0));
        Check.same("a word is taken back", 22, x.back(0, 3));
        due = due.replace("3,2,0,1000,2,0,5,9", "3,2,0,1000,2,-1,-1,-1")
                .replace("4,3,0,1000,3,1,2,-1", "4,3,0,1000,3,-1,-1,-1") + ";22,4,0,1000,3,-1,-1,-1";
        Check.same("its pieces are not told any more, nor those of its edit", due, x.export(0, 0));
        Check.same("a poll is taken back", 23, x.back(0, 10));
        due = due.replace("12,3,0,1000,10,4,5,-1", "12,3,0,1000,10,-1,-1,-1") + ";23,4,0,1000,10,-1,-1,-1";
        Check.same("its options are no pieces", due, x.export(0, 0));
        Check.same("leave", 24, x.leave(0, 0));
        Check.same("export", due + ";24,1,0,1000,-1,-1,-1,-1", x.export(0, 0));
        Check.same("again", "2:0:boat* / 3:0:- / 10:0:-", x.again(0, 0));
        Check.same("of a room that is not heard of", "", x.export(0, 2));
        Check.same("of a room that is not heard of", "", x.again(0, 2));
    }

    private static void exportOfWhatIsTakenBack() {
        Roomtalk x = Towns.threeIn();
        Check.same("a word", 2, x.say(2, 0, -1, 5, 4, 3));
        Towns.hearAll(x);
        Check.same("taken back", 3, x.back(2, 2));
        Check.same("edited at the other place", 4, x.edit(3, 2, 1, 1));
        String two = "0,0,1,0,-1,-1,-1,-1;1,0,2,0,-1,-1,-1,-1;";
        Check.same("where that is not heard", two + "2,2,1,0,-1,5,4,3;4,3,1,0,2,1,1,-1", x.export(3, 0));
        Check.same("where that is not heard", "2:1:rain rain*", x.again(3, 0));
        Check.same("where it is", "2:1:-", x.drawn(2, 0, false));
        Check.same("where that is not heard, asked behind it", "2:1:rain rain*", x.again(3, 0));
        Towns.hearAll(x);
        Check.same("the edit is void", "0 1 2 3 4!", x.order(0, 0));
        Check.same("its pieces are not told either", two + "2,2,1,0,-1,-1,-1,-1;3,4,1,0,2,-1,-1,-1;4,3,1,0,2,-1,-1,-1",
                x.export(0, 0));
        Check.same("again", "2:1:-", x.again(0, 0));
        Check.same("told by no act", "-1 -1 -1", x.ofAct(2, 7) + " " + x.ofAct(2, 8) + " " + x.ofAct(2, 9));
        Check.same("told by no act", "2 -1 -1 -1",
                x.ofAct(4, 6) + " " + x.ofAct(4, 7) + " " + x.ofAct(4, 8) + " " + x.ofAct(4, 9));
    }

    private static void exportOfWhatIsVoid() {
        Roomtalk x = Towns.threeIn();
        Check.same("SPEAK is taken", 2, x.right(0, 0, 1, 0, false));
        Check.same("a word", 3, Towns.word(x, 2, 5));
        Check.same("edited", 4, x.edit(2, 3, 4, 3));
        Check.same("taken back", 5, x.back(2, 3));
        Check.same("where it is not void it is taken back", "0,0,1,0,-1,-1,-1,-1;1,0,2,0,-1,-1,-1,-1;"
                + "3,2,1,0,-1,-1,-1,-1;4,3,1,0,3,-1,-1,-1;5,4,1,0,3,-1,-1,-1", x.export(2, 0));
        Towns.hearAll(x);
        Check.same("void", "0 1 2 3! 4! 5!", x.order(0, 0));
        Check.same("what is void is not taken back", "0,0,1,0,-1,-1,-1,-1;1,0,2,0,-1,-1,-1,-1;"
                + "2,10,0,0,1,0,0,-1;3,2,1,0,-1,5,-1,-1;4,3,1,0,3,4,3,-1;5,4,1,0,3,-1,-1,-1", x.export(0, 0));
        Check.same("again", "", x.again(0, 0));
    }

    private static void exportOfAFullHouse() {
        Roomtalk x = Towns.allIn();
        for (int k = 5; k < 120; k++) {
            int place = 2 * (k % 6);
            Check.same("say", k, x.say(place, 0, k > 20 && k % 3 == 0 ? k - 12 : -1, k % 12, k % 5, k % 7));
            if (k % 10 == 0) {
                Towns.hearAll(x);
            }
        }
        Towns.hearAll(x);
        Check.same("as many", 120, x.export(0, 0).split(";").length);
        for (int place = 0; place < Towns.PLACES; place++) {
            Check.same("again is drawn flat", x.drawn(place, 0, false), x.again(place, 0));
            Check.same("alike", x.export(0, 0), x.export(place, 0));
            Check.same("heard", 120, x.ofPlace(place, 0));
        }
        Check.same("sound", true, x.isSound());
    }

    // ---- what else is told

    private static void wasThen() {
        Roomtalk x = Towns.threeIn();
        Check.same("SPEAK is taken", 2, x.right(0, 0, 1, 0, false));
        Check.same("a word", 3, Towns.word(x, 2, 5));
        x.carry(4, 1, false);
        x.carryAll(4);
        Check.same("void now", "", x.drawn(4, 0, false));
        Check.same("not void then", "3:1:no", x.was(4, 0, 3));
        Check.same("void then", "", x.was(4, 0, 4));
        Check.same("behind no word", "", x.was(4, 0, 2));

        Roomtalk y = Towns.threeIn();
        Check.same("a word", 2, Towns.word(y, 0, 5));
        Check.same("edited", 3, y.edit(0, 2, 4, -1));
        Check.same("marked", 4, y.mark(0, 2, 0, true));
        Check.same("was", "2:0:no", y.was(0, 0, 3));
        Check.same("was", "2:0:yes*", y.was(0, 0, 4));
        Check.same("was", "2:0:yes*+0x1", y.was(0, 0, 5));
        Check.same("taken back", 5, y.back(0, 2));
        for (int many = 3; many <= 6; many++) {
            Check.same("as if it were then", "2:0:-", y.was(0, 0, many));
        }
        Check.same("where that is not heard", "", y.was(2, 0, 2));
        y.carry(2, 0, false);
        Check.same("where that is not heard", "2:0:no", y.was(2, 0, 3));
    }

    private static void foundInTexts() {
        Roomtalk x = Towns.threeIn();
        Check.same("first piece", 2, x.say(0, 0, -1, 11, -1, -1));
        Check.same("second piece", 3, x.say(0, 0, -1, 0, 11, -1));
        Check.same("third piece", 4, x.say(0, 0, -1, 0, 0, 11));
        Check.same("a poll", 5, x.poll(0, 0, 2));
        Check.same("found", "2 3 4", x.found(0, 0, 11));
        Check.same("found", "3 4", x.found(0, 0, 0));
        Check.same("not found", "", x.found(0, 0, 1));
        Check.same("edited", 6, x.edit(0, 2, 0, -1));
        Check.same("found by the text now", "3 4", x.found(0, 0, 11));
        Check.same("found by the text now", "2 3 4", x.found(0, 0, 0));
        Check.same("taken back", 7, x.back(0, 3));
        Check.same("found", "4", x.found(0, 0, 11));
        Check.same("where it is not heard", "", x.found(2, 0, 11));
        Check.same("of that room alone", "", x.found(0, 1, 11));
        Check.same("ahead by order", 8, Towns.word(x, 2, 11));
        Towns.hearAll(x);
        Check.same("by order", "8 4", x.found(0, 0, 11));
        Check.same("SPEAK is taken", 9, x.right(0, 0, 1, 0, false));
        Check.same("void", 10, Towns.word(x, 2, 11));
        Check.same("where that is not heard", "8 4 10", x.found(2, 0, 11));
        Towns.hearAll(x);
        Check.same("void", "8 4", x.found(2, 0, 11));
    }

    private static void factsOfWords() {
        Roomtalk x = Court.sitting();
        x.edit(0, Court.WORD, 1, -1);
        for (int sign = 0; sign < 5; sign++) {
            x.mark(0, Court.WORD, sign, true);
        }
        x.pin(0, Court.WORD, true);
        x.vote(0, Court.POLL, 3);
        Towns.hearAll(x);
        x.say(2, 0, Court.WORD, 0, -1, -1);
        Check.same("word", "0 -1 0 1 1 5 1 1 0 0", facts(x, Court.WORD));
        Check.same("poll", "0 -1 0 0 0 0 0 0 0 4", facts(x, Court.POLL));
        x.pin(2, Court.POLL, true);
        x.mark(2, Court.POLL, 0, true);
        Check.same("poll", "0 -1 0 0 1 1 0 0 0 4", facts(x, Court.POLL));
        x.back(2, Court.WORD);
        x.back(2, Court.POLL);
        Check.same("a word taken back", "0 -1 1 0 0 0 1 1 0 0", facts(x, Court.WORD));
        Check.same("a poll taken back", "0 -1 1 0 0 0 0 0 0 4", facts(x, Court.POLL));
        Check.same("its votes", "0 0 0 1", x.tally(2, Court.POLL));
        Check.same("its text", "-", x.text(2, Court.POLL));
    }

    private static String facts(Roomtalk x, int word) {
        StringBuilder all = new StringBuilder();
        for (int what = 0; what < 10; what++) {
            all.append(what == 0 ? "" : " ").append(x.ofWord(2, word, what));
        }
        return all.toString();
    }

    private static void factsOfRooms() {
        Roomtalk x = Court.sitting();
        x.call(0, 0, 5);
        x.bar(0, 0, 3, true);
        x.slow(0, 0, 5, 100);
        x.lock(0, 0, true);
        Towns.hearAll(x);
        x.right(0, 0, 1, 0, false);
        Check.same("a word that is void by that", 19, Towns.word(x, 2, 0));
        Towns.hearAll(x);
        int[] due = {7, 32, 8, 1, 5, 100, 4, 1, 20, 2};
        for (int what = 0; what < 10; what++) {
            Check.same("room " + what, due[what], x.ofRoom(4, 0, what));
        }
    }

    /** What was asked of one place or room leaves nothing in what is asked of the next one. */
    private static void onePlaceAfterAnother() {
        Roomtalk x = Court.sitting();
        x.call(0, 0, 5);
        x.bar(0, 0, 3, true);
        x.slow(0, 0, 5, 100);
        x.lock(0, 0, true);
        Towns.hearAll(x);
        x.right(0, 0, 1, 0, false);
        Check.same("void where that is heard", 19, Towns.word(x, 2, 0));
        x.carryAll(0);
        int[] due = {2, 0, 0, 0, 0, 0, 0, 0, 0, 0};
        for (int what = 0; what < 10; what++) {
            x.ofRoom(0, 0, what);
            Check.same("another room", due[what], x.ofRoom(0, 1, what));
        }
        String order = x.order(0, 0);
        Check.same("void", true, order.endsWith(" 18 19!"));
        Check.same("not void", true, x.order(2, 0).endsWith(" 17 19"));
        Check.same("void", 1, x.ofRoom(0, 0, 7));
        Check.same("not void", 0, x.ofRoom(2, 0, 7));
        Check.same("all rights", 63, x.rights(0, 0, 0));
        Check.same("rights of the other room", 1, x.rights(0, 1, 0));
    }

    private static void soundThoughHeardOtherwise() {
        Roomtalk x = Towns.threeIn();
        Towns.word(x, 0, 0);
        Towns.word(x, 1, 1);
        Towns.word(x, 2, 2);
        Towns.word(x, 3, 3);
        Check.same("as many acts", x.ofPlace(0, 0), x.ofPlace(3, 0));
        Check.same("but other ones", "2:0:hey 4:1:bread", x.drawn(0, 0, false) + " " + x.drawn(2, 0, false));
        Check.same("sound", true, x.isSound());
        Roomtalk y = new Roomtalk();
        Towns.word(y, 0, 0);
        Towns.word(y, 1, 1);
        Check.same("one each, and another one", "0 / 1", y.order(0, 0) + " / " + y.order(1, 0));
        Check.same("sound", true, y.isSound());
    }

    private static void housesAreApart() {
        Roomtalk x = new Roomtalk();
        Roomtalk y = new Roomtalk();
        String before = State.of(y);
        Towns.word(x, 0, 0);
        x.tick(5);
        x.keyword(0, 0);
        x.rule(4, 0, 0);
        x.part();
        x.sit(0, 1);
        x.off(3, true);
        x.knock();
        x.read(1, 0);
        Check.same("another house", true, before.equals(State.of(y)));
        Check.same("another house", 1, y.rule(4, 0, 0));
        Check.same("another house", -1, y.keyword(0, 1));
    }

    private static void knocks() {
        Roomtalk x = new Roomtalk();
        for (int k = 1; k <= 200; k++) {
            Check.same("refused", k, x.knock());
        }
        Check.same("refused", 200, x.house(7));
        Check.same("nobody came in", 0, x.house(1));
    }

    /** The checksum before it wraps around is far above what 64 bits hold; what is left of it is told. */
    private static void digestsWrapAround() {
        Roomtalk[] houses = {new Roomtalk(), Court.sitting(), eachKind(), botAndThree()};
        houses[0].tick(1000);
        houses[1].keyword(5, 11);
        houses[2].back(0, 3);
        houses[3].off(11, true);
        for (Roomtalk x : houses) {
            BigInteger whole = wholeDigest(x);
            Check.same("far above", true, whole.bitLength() > 1000);
            Check.same("wraps around", whole.longValue(), x.digest());
        }
        long before = houses[0].digest();
        houses[0].keyword(5, 0);
        Check.same("the last keyword, weighed by 31", before + 31, houses[0].digest());
        houses[0].keyword(4, 11);
        Check.same("the one before, by 31 * 31 * 31", before + 31 + 12L * 31 * 31 * 31, houses[0].digest());
    }

    private static BigInteger wholeDigest(Roomtalk x) {
        BigInteger d = BigInteger.valueOf(5807);
        for (int what = 0; what < 8; what++) {
            d = with(d, x.house(what));
        }
        for (int act = 0; act < x.house(1); act++) {
            for (int what = 0; what < 10; what++) {
                d = with(d, x.ofAct(act, what));
            }
        }
        for (int place = 0; place < Towns.PLACES; place++) {
            for (int what = 0; what < 6; what++) {
                d = with(d, x.ofPlace(place, what));
            }
            d = with(d, x.way(place).length());
            d = with(d, x.waiting(place).length());
            d = with(d, x.summary(place).length());
            for (int room = 0; room < Towns.ROOMS; room++) {
                for (int what = 0; what < 10; what++) {
                    d = with(d, x.ofRoom(place, room, what));
                }
                d = with(d, x.order(place, room).length());
                d = with(d, x.drawn(place, room, true).length());
                d = with(d, x.export(place, room).length());
            }
        }
        for (int member = 0; member < Towns.MEMBERS; member++) {
            d = with(d, x.notices(member).length());
            int keyword = x.keyword(member, -1);
            x.keyword(member, keyword);
            d = with(d, keyword);
        }
        return with(d, x.isSound() ? 1 : 0);
    }

    private static BigInteger with(BigInteger d, long v) {
        return d.multiply(BigInteger.valueOf(31)).add(BigInteger.valueOf(v));
    }
}
