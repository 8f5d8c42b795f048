import java.util.function.Consumer;

/**
 * Each sentence of "What it is", of "Places, names", of "Exceptions" and of promises 1 to 6 that
 * names a boundary case, by a test of its own.
 */
public final class PlaceBoundariesTest {
    private static final Checks CHECKS = new Checks("PlaceBoundariesTest");
    private static final int LEAST = Integer.MIN_VALUE, MOST = Integer.MAX_VALUE;

    public static void main(String[] args) {
        terms();
        aNewObject();
        letter();
        place();
        name();
        spelled();
        pass();
        exceptions();
        CHECKS.end();
    }

    // ---- the sentences

    private static void terms() {
        CHECKS.sentence("Terms", "An object is used for at most 512 calls",
                PlaceBoundariesTest::theLastCallOfAll);
        CHECKS.sentence("Terms", "Days are counted from 0.", PlaceBoundariesTest::daysFromZero);
        CHECKS.sentence("Terms", "Places are numbered from 0, at most 14",
                PlaceBoundariesTest::fourteenPlaces);
        CHECKS.sentence("Terms", "a place has a length, -180 to 179", PlaceBoundariesTest::lengths);
        CHECKS.sentence("Terms", "a breadth, -60 to 60", PlaceBoundariesTest::breadths);
        CHECKS.sentence("Terms", "and a rank, 1 to 5", PlaceBoundariesTest::placeRanks);
        CHECKS.sentence("Terms", "It has a name of 1 to 8 letters",
                PlaceBoundariesTest::lettersOfAName);
        CHECKS.sentence("Terms", "from some day on, then perhaps another one",
                PlaceBoundariesTest::fromSomeDayOn);
        CHECKS.sentence("Terms", "on a day it has the one that was told last up to that",
                PlaceBoundariesTest::toldLastUpToADay);
        CHECKS.sentence("Terms", "none ahead of all", PlaceBoundariesTest::noneAheadOfAll);
    }

    private static void aNewObject() {
        CHECKS.sentence("GraticulePress", "Begins on the day 0",
                PlaceBoundariesTest::beginsOnTheDayZero);
        CHECKS.sentence("GraticulePress", "without places",
                PlaceBoundariesTest::beginsWithoutPlaces);
        CHECKS.sentence("GraticulePress", "and sheets", PlaceBoundariesTest::beginsWithoutSheets);
        CHECKS.sentence("nothing typed or printed", "A new object",
                PlaceBoundariesTest::beginsWithoutWordAndEdition);
    }

    private static void letter() {
        CHECKS.sentence("letter", "Adds a letter to the word that is typed.",
                PlaceBoundariesTest::addsALetter);
        CHECKS.sentence("letter", "letter: a to z", PlaceBoundariesTest::allLetters);
        CHECKS.sentence("letter", "Returns how many it has then.",
                PlaceBoundariesTest::howManyLetters);
        CHECKS.sentence("letter", "Throws IllegalArgumentException if letter is none of these",
                PlaceBoundariesTest::noneOfTheLetters);
        CHECKS.sentence("letter", "Throws IllegalStateException if it has 8",
                PlaceBoundariesTest::ninthLetter);
    }

    private static void place() {
        CHECKS.sentence("place", "Makes a place; it pushes nothing.",
                PlaceBoundariesTest::aPlacePushesNothing);
        CHECKS.sentence("place", "length: -180 to 179", PlaceBoundariesTest::lengthsOnASheet);
        CHECKS.sentence("place", "breadth: -60 to 60", PlaceBoundariesTest::breadthsOnASheet);
        CHECKS.sentence("place", "rank: 1 to 5", PlaceBoundariesTest::ranksOnASheet);
        CHECKS.sentence("place", "Returns its number.", PlaceBoundariesTest::placeNumbers);
        CHECKS.sentence("place",
                "Throws IllegalArgumentException if length, breadth or rank is out of range",
                PlaceBoundariesTest::placeOutOfRange);
        CHECKS.sentence("place", "Throws IllegalStateException if there are 14",
                PlaceBoundariesTest::fifteenthPlace);
    }

    private static void name() {
        CHECKS.sentence("name", "Tells the name of a place from today on",
                PlaceBoundariesTest::fromTodayOn);
        CHECKS.sentence("name", "the word that is typed", PlaceBoundariesTest::theWordThatIsTyped);
        CHECKS.sentence("name", "nothing is typed then", PlaceBoundariesTest::nothingIsTypedThen);
        CHECKS.sentence("name", "Returns how many names it pushes.",
                PlaceBoundariesTest::pushesNone);
        CHECKS.sentence("name", "Throws IndexOutOfBoundsException as told",
                PlaceBoundariesTest::namesOfNoPlace);
        CHECKS.sentence("name", "Throws IllegalStateException if nothing is typed",
                PlaceBoundariesTest::namesOfNothing);
        CHECKS.sentence("name", "or the place was told 6 names", PlaceBoundariesTest::seventhName);
        CHECKS.sentence("name", "two of one day counted both", PlaceBoundariesTest::twoOfOneDay);
    }

    private static void spelled() {
        CHECKS.sentence("spelled", "day: 0 to 10000", PlaceBoundariesTest::daysOfSpelling);
        CHECKS.sentence("spelled", "which: from 0", PlaceBoundariesTest::whichFromZero);
        CHECKS.sentence("spelled", "a blank beyond", PlaceBoundariesTest::blankBeyond);
        CHECKS.sentence("spelled", "or without a name", PlaceBoundariesTest::blankWithoutAName);
        CHECKS.sentence("spelled", "Throws IndexOutOfBoundsException as told",
                PlaceBoundariesTest::spellingOfNoPlace);
        CHECKS.sentence("spelled", "or if which is below 0", PlaceBoundariesTest::whichBelowZero);
        CHECKS.sentence("spelled", "Throws IllegalArgumentException if day is out of range",
                PlaceBoundariesTest::dayOutOfRange);
    }

    private static void pass() {
        CHECKS.sentence("pass", "days: 1 to 1000", PlaceBoundariesTest::daysThatPass);
        CHECKS.sentence("pass", "Returns the day.", PlaceBoundariesTest::theDay);
        CHECKS.sentence("pass", "Throws IllegalArgumentException if days is out of range",
                PlaceBoundariesTest::daysOutOfRange);
        CHECKS.sentence("pass", "Throws IllegalStateException if it would be above 10000",
                PlaceBoundariesTest::aboveTheLastDay);
    }

    private static void exceptions() {
        CHECKS.sentence("letter", "If several apply, the one that is named first",
                PlaceBoundariesTest::severalOfLetter);
        CHECKS.sentence("place", "If several apply, the one that is named first",
                PlaceBoundariesTest::severalOfPlace);
        CHECKS.sentence("name", "If several apply, the one that is named first",
                PlaceBoundariesTest::severalOfName);
        CHECKS.sentence("spelled", "If several apply, the one that is named first",
                PlaceBoundariesTest::severalOfSpelled);
        CHECKS.sentence("pass", "If several apply, the one that is named first",
                PlaceBoundariesTest::severalOfPass);
        CHECKS.sentence("letter", "a call that throws changes nothing",
                () -> changesNothing(PlaceBoundariesTest::refusedLetters));
        CHECKS.sentence("place", "a call that throws changes nothing",
                () -> changesNothing(PlaceBoundariesTest::refusedPlaces));
        CHECKS.sentence("name", "a call that throws changes nothing",
                () -> changesNothing(PlaceBoundariesTest::refusedNames));
        CHECKS.sentence("spelled", "a call that throws changes nothing",
                () -> changesNothing(PlaceBoundariesTest::refusedSpellings));
        CHECKS.sentence("pass", "a call that throws changes nothing",
                () -> changesNothing(PlaceBoundariesTest::refusedDays));
    }

    // ---- terms

    private static void theLastCallOfAll() {
        GraticulePress press = new GraticulePress();
        for (int i = 0; i < 4; i++) {
            press.sheet(i, i, i % 2);
        }
        for (int i = 0; i < 14; i++) {
            press.place(2 * i, i, 1 + i % 5);
        }
        for (int i = 0; i < 84; i++) {
            press.letter((char) ('a' + i % 26));
            press.name(i % 14);
            press.pass(1);
        }
        for (int i = 0; i < 5; i++) {
            press.print();
        }
        int calls = 4 + 14 + 3 * 84 + 5;
        for (; calls < 509; calls++) {
            press.worth(calls % 4);
        }
        CHECKS.same("the day of call 510", press.pass(1), 85);
        CHECKS.same("the letter of call 511", press.spelled(13, 84, 0), 'a' + 83 % 26);
        CHECKS.noState("call 512", () -> press.print());
    }

    private static void daysFromZero() {
        GraticulePress press = namedOn(0);
        CHECKS.same("a name of the first day, on day 0", Checks.spelling(press, 0, 0), "name");
        CHECKS.same("the day after the first", press.pass(1), 1);
        CHECKS.noArgument("a day ahead of 0", () -> press.spelled(0, -1, 0));
    }

    private static void fourteenPlaces() {
        GraticulePress press = new GraticulePress();
        CHECKS.same("the first", press.place(0, 0, 1), 0);
        for (int i = 1; i <= 12; i++) {
            press.place(0, 0, 1);
        }
        CHECKS.same("the fourteenth", press.place(0, 0, 1), 13);
        Checks.tell(press, 13, "last");
        CHECKS.same("the fourteenth has its name", Checks.spelling(press, 13, 0), "last");
        CHECKS.noState("a fifteenth", () -> press.place(0, 0, 1));
        CHECKS.noPlace("number 14", () -> press.spelled(14, 0, 0));
    }

    private static void lengths() {
        GraticulePress press = new GraticulePress();
        CHECKS.same("-180", press.place(-180, 0, 1), 0);
        CHECKS.same("179", press.place(179, 0, 1), 1);
        CHECKS.noArgument("-181", () -> press.place(-181, 0, 1));
        CHECKS.noArgument("180", () -> press.place(180, 0, 1));
    }

    private static void breadths() {
        GraticulePress press = new GraticulePress();
        CHECKS.same("-60", press.place(0, -60, 1), 0);
        CHECKS.same("60", press.place(0, 60, 1), 1);
        CHECKS.noArgument("-61", () -> press.place(0, -61, 1));
        CHECKS.noArgument("61", () -> press.place(0, 61, 1));
    }

    private static void placeRanks() {
        GraticulePress press = new GraticulePress();
        CHECKS.same("1", press.place(0, 0, 1), 0);
        CHECKS.same("5", press.place(0, 0, 5), 1);
        CHECKS.noArgument("0", () -> press.place(0, 0, 0));
        CHECKS.noArgument("6", () -> press.place(0, 0, 6));
    }

    private static void lettersOfAName() {
        for (int letters = 1; letters <= 8; letters++) {
            String word = "abcdefgh".substring(0, letters);
            GraticulePress press = new GraticulePress();
            press.place(0, 0, 1);
            Checks.tell(press, 0, word);
            CHECKS.same(letters + " letters", Checks.spelling(press, 0, 0), word);
        }
        GraticulePress press = new GraticulePress();
        press.place(0, 0, 1);
        CHECKS.noState("none", () -> press.name(0));
        Checks.type(press, "abcdefgh");
        CHECKS.noState("nine", () -> press.letter('i'));
    }

    private static void fromSomeDayOn() {
        GraticulePress press = namedOn(40);
        press.pass(2);
        Checks.tell(press, 0, "another");
        CHECKS.same("the day ahead", Checks.spelling(press, 0, 39), "");
        CHECKS.same("the day itself", Checks.spelling(press, 0, 40), "name");
        CHECKS.same("the day ahead of another", Checks.spelling(press, 0, 41), "name");
        CHECKS.same("the day of another", Checks.spelling(press, 0, 42), "another");
        CHECKS.same("the last day of all", Checks.spelling(press, 0, 10000), "another");
    }

    private static void toldLastUpToADay() {
        GraticulePress press = namedOn(3);
        Checks.tell(press, 0, "second");
        CHECKS.same("the last of two of one day", Checks.spelling(press, 0, 3), "second");
        press.pass(1);
        Checks.tell(press, 0, "third");
        Checks.tell(press, 0, "fourth");
        Checks.tell(press, 0, "fifth");
        CHECKS.same("the last of three of one day", Checks.spelling(press, 0, 4), "fifth");
        CHECKS.same("the day ahead of those", Checks.spelling(press, 0, 3), "second");
        press.pass(1);
        Checks.tell(press, 0, "name");
        CHECKS.same("the first name once more", Checks.spelling(press, 0, 5), "name");
        CHECKS.same("it changes no day ahead", Checks.spelling(press, 0, 4), "fifth");
    }

    private static void noneAheadOfAll() {
        GraticulePress press = namedOn(1);
        CHECKS.same("day 0", press.spelled(0, 0, 0), ' ');
        CHECKS.same("day 1", press.spelled(0, 1, 0), 'n');
        GraticulePress late = namedOn(10000);
        CHECKS.same("day 9999", late.spelled(0, 9999, 0), ' ');
        CHECKS.same("day 10000", late.spelled(0, 10000, 0), 'n');
    }

    // ---- promise 1

    private static void beginsOnTheDayZero() {
        CHECKS.same("one day on", new GraticulePress().pass(1), 1);
        CHECKS.same("a thousand days on", new GraticulePress().pass(1000), 1000);
    }

    private static void beginsWithoutPlaces() {
        GraticulePress press = new GraticulePress();
        press.sheet(0, 0, GraticulePress.PLATE);
        press.letter('a');
        CHECKS.noPlace("name", () -> press.name(0));
        CHECKS.noPlace("spelled", () -> press.spelled(0, 0, 0));
        CHECKS.noPlace("dot", () -> press.dot(0, 0, true));
        CHECKS.noPlace("side", () -> press.side(0, 0));
        CHECKS.same("the first place", press.place(0, 0, 1), 0);
    }

    private static void beginsWithoutSheets() {
        GraticulePress press = new GraticulePress();
        press.place(0, 0, 1);
        press.print();
        CHECKS.noPlace("dot", () -> press.dot(0, 0, true));
        CHECKS.noPlace("side", () -> press.side(0, 0));
        CHECKS.noPlace("drawn", () -> press.drawn(0, 0, 0));
        CHECKS.noPlace("worth", () -> press.worth(0));
        CHECKS.noPlace("best", () -> press.best(0));
        CHECKS.noPlace("printed", () -> press.printed(0, 0, 0, 0));
        CHECKS.same("the first sheet", press.sheet(0, 0, GraticulePress.PLATE), 0);
    }

    private static void beginsWithoutWordAndEdition() {
        GraticulePress press = new GraticulePress();
        press.sheet(0, 0, GraticulePress.PLATE);
        press.place(0, 0, 1);
        CHECKS.noState("name", () -> press.name(0));
        CHECKS.noPlace("printed", () -> press.printed(0, 0, 0, 0));
        CHECKS.same("the first letter", press.letter('a'), 1);
        CHECKS.same("the first edition", press.print(), 0);
    }

    // ---- promise 2

    private static void addsALetter() {
        GraticulePress press = new GraticulePress();
        press.place(0, 0, 1);
        Checks.type(press, "zyxabca");
        press.letter('a');
        press.name(0);
        CHECKS.same("behind those that are there", Checks.spelling(press, 0, 0), "zyxabcaa");
    }

    private static void allLetters() {
        for (char letter = 'a'; letter <= 'z'; letter++) {
            GraticulePress press = new GraticulePress();
            press.place(0, 0, 1);
            CHECKS.same("letter " + letter, press.letter(letter), 1);
            press.name(0);
            CHECKS.same("spelled " + letter, press.spelled(0, 0, 0), letter);
        }
    }

    private static void howManyLetters() {
        GraticulePress press = new GraticulePress();
        press.place(0, 0, 1);
        for (int i = 1; i <= 8; i++) {
            CHECKS.same("letter " + i, press.letter('m'), i);
        }
        press.name(0);
        CHECKS.same("the first of another word", press.letter('m'), 1);
        CHECKS.same("the second of another word", press.letter('m'), 2);
    }

    private static void noneOfTheLetters() {
        CHECKS.noArgument("just below a", () -> new GraticulePress().letter((char) 96));
        CHECKS.noArgument("just above z", () -> new GraticulePress().letter((char) 123));
        for (int sign = 0; sign <= Character.MAX_VALUE; sign++) {
            char letter = (char) sign;
            if (sign < 'a' || sign > 'z') {
                CHECKS.noArgument("sign " + sign, () -> new GraticulePress().letter(letter));
            }
        }
    }

    private static void ninthLetter() {
        GraticulePress press = new GraticulePress();
        press.place(0, 0, 1);
        Checks.type(press, "abcdefg");
        CHECKS.same("the eighth", press.letter('h'), 8);
        CHECKS.noState("a ninth", () -> press.letter('i'));
        CHECKS.noState("a ninth once more", () -> press.letter('a'));
        press.name(0);
        CHECKS.same("the eight alone", Checks.spelling(press, 0, 0), "abcdefgh");
        CHECKS.same("room again", press.letter('i'), 1);
    }

    // ---- promise 3

    private static void aPlacePushesNothing() {
        GraticulePress press = new GraticulePress();
        press.sheet(0, 0, GraticulePress.PLATE);
        press.place(15, 10, 1);
        press.place(0, 0, 1);
        Checks.tell(press, 0, "a");
        CHECKS.same("the dot of a place answers its number alone", press.place(16, 10, 5), 2);
        CHECKS.same("no name told later counts it", Checks.tell(press, 1, "b"), 0);
    }

    private static void lengthsOnASheet() {
        GraticulePress press = new GraticulePress();
        press.sheet(-180, 0, GraticulePress.PLATE);
        press.sheet(150, 0, GraticulePress.PLATE);
        press.place(-180, 0, 1);
        press.place(179, 0, 1);
        CHECKS.same("-180 is the first column", press.dot(0, 0, false), 0);
        CHECKS.same("179 is the last column of a place", press.dot(1, 1, false), 38);
        CHECKS.same("179 is far from -180", press.dot(0, 1, false), GraticulePress.NONE);
        CHECKS.same("-180 is far from 179", press.dot(1, 0, false), GraticulePress.NONE);
    }

    private static void breadthsOnASheet() {
        GraticulePress press = new GraticulePress();
        press.sheet(0, -60, GraticulePress.PLATE);
        press.sheet(0, 41, GraticulePress.PLATE);
        press.place(0, -60, 1);
        press.place(0, 60, 1);
        CHECKS.same("-60 is the first row", press.dot(0, 0, true), 0);
        CHECKS.same("60 is the last row of a place", press.dot(1, 1, true), 22);
    }

    private static void ranksOnASheet() {
        for (int rank = 1; rank <= 5; rank++) {
            GraticulePress press = new GraticulePress();
            press.sheet(0, 0, GraticulePress.PLATE);
            press.place(9, 9, rank);
            Checks.tell(press, 0, "a");
            CHECKS.same("a worth of " + rank, press.worth(0), rank);
        }
    }

    private static void placeNumbers() {
        GraticulePress press = new GraticulePress();
        for (int i = 0; i < 14; i++) {
            CHECKS.same("alike ones too", press.place(0, 0, 1), i);
        }
    }

    private static void placeOutOfRange() {
        GraticulePress press = new GraticulePress();
        for (int length : new int[] {-181, 180, LEAST, MOST}) {
            CHECKS.noArgument("length " + length, () -> press.place(length, 0, 1));
        }
        for (int breadth : new int[] {-61, 61, LEAST, MOST}) {
            CHECKS.noArgument("breadth " + breadth, () -> press.place(0, breadth, 1));
        }
        for (int rank : new int[] {0, 6, -1, LEAST, MOST}) {
            CHECKS.noArgument("rank " + rank, () -> press.place(0, 0, rank));
        }
        CHECKS.same("none of them was made", press.place(0, 0, 1), 0);
    }

    private static void fifteenthPlace() {
        GraticulePress press = new GraticulePress();
        for (int i = 0; i < 14; i++) {
            press.place(i, 0, 1);
        }
        CHECKS.noState("a fifteenth", () -> press.place(0, 0, 1));
        CHECKS.noState("a fifteenth once more", () -> press.place(1, 1, 5));
        CHECKS.noPlace("it is not there", () -> press.name(14));
    }

    // ---- promise 4

    private static void fromTodayOn() {
        GraticulePress press = namedOn(7);
        CHECKS.same("yesterday", Checks.spelling(press, 0, 6), "");
        CHECKS.same("today", Checks.spelling(press, 0, 7), "name");
        CHECKS.same("tomorrow", Checks.spelling(press, 0, 8), "name");
    }

    private static void theWordThatIsTyped() {
        GraticulePress press = new GraticulePress();
        press.place(0, 0, 1);
        press.place(0, 0, 1);
        Checks.type(press, "one");
        press.pass(1);
        press.place(0, 0, 1);
        press.letter('s');
        press.name(1);
        CHECKS.same("typed on two days", Checks.spelling(press, 1, 1), "ones");
        CHECKS.same("another place has none", Checks.spelling(press, 0, 1), "");
    }

    private static void nothingIsTypedThen() {
        GraticulePress press = namedOn(0);
        CHECKS.noState("a name at once", () -> press.name(0));
        CHECKS.same("the next letter is the first", press.letter('x'), 1);
        press.name(0);
        CHECKS.same("that letter alone", Checks.spelling(press, 0, 0), "x");
    }

    private static void pushesNone() {
        GraticulePress press = new GraticulePress();
        press.place(0, 0, 1);
        press.place(0, 0, 5);
        CHECKS.same("without sheets", Checks.tell(press, 0, "abc"), 0);
        press.sheet(100, 40, GraticulePress.PLATE);
        CHECKS.same("on no sheet", Checks.tell(press, 1, "abc"), 0);
        press.sheet(0, 0, GraticulePress.PLATE);
        CHECKS.same("anew, as it was", Checks.tell(press, 1, "abc"), 0);
        CHECKS.same("its own is none", Checks.tell(press, 1, "b"), 0);
    }

    private static void namesOfNoPlace() {
        GraticulePress press = new GraticulePress();
        press.letter('a');
        CHECKS.noPlace("place 0 of none", () -> press.name(0));
        press.place(0, 0, 1);
        for (int place : new int[] {-1, 1, 13, 14, LEAST, MOST}) {
            CHECKS.noPlace("place " + place, () -> press.name(place));
        }
        CHECKS.same("the last that is there", press.name(0), 0);
    }

    private static void namesOfNothing() {
        GraticulePress press = new GraticulePress();
        press.place(0, 0, 1);
        CHECKS.noState("a new object", () -> press.name(0));
        press.pass(1);
        CHECKS.noState("another day", () -> press.name(0));
        press.letter('a');
        CHECKS.same("a single letter", press.name(0), 0);
    }

    private static void seventhName() {
        GraticulePress press = new GraticulePress();
        press.place(0, 0, 1);
        press.place(0, 0, 1);
        for (int i = 0; i < 6; i++) {
            CHECKS.same("name " + i, Checks.tell(press, 0, "n"), 0);
            press.pass(1);
        }
        press.letter('x');
        CHECKS.noState("a seventh", () -> press.name(0));
        CHECKS.noState("a seventh once more", () -> press.name(0));
        CHECKS.same("the sixth stays", Checks.spelling(press, 0, 6), "n");
        CHECKS.same("another place has room", press.name(1), 0);
        CHECKS.same("the word was kept for it", Checks.spelling(press, 1, 6), "x");
    }

    private static void twoOfOneDay() {
        GraticulePress press = new GraticulePress();
        press.place(0, 0, 1);
        Checks.tell(press, 0, "n");
        Checks.tell(press, 0, "n");
        for (int i = 2; i < 6; i++) {
            press.pass(1);
            CHECKS.same("name " + i, Checks.tell(press, 0, "n"), 0);
        }
        press.pass(1);
        press.letter('x');
        CHECKS.noState("a seventh, on the sixth day", () -> press.name(0));
        GraticulePress oneDay = new GraticulePress();
        oneDay.place(0, 0, 1);
        for (int i = 0; i < 6; i++) {
            CHECKS.same("name " + i + " of one day", Checks.tell(oneDay, 0, "n"), 0);
        }
        oneDay.letter('x');
        CHECKS.noState("a seventh of one day", () -> oneDay.name(0));
    }

    // ---- promise 5

    private static void daysOfSpelling() {
        GraticulePress press = namedOn(0);
        CHECKS.same("day 0", press.spelled(0, 0, 0), 'n');
        CHECKS.same("day 10000, yet to come", press.spelled(0, 10000, 0), 'n');
        CHECKS.noArgument("day -1", () -> press.spelled(0, -1, 0));
        CHECKS.noArgument("day 10001", () -> press.spelled(0, 10001, 0));
    }

    private static void whichFromZero() {
        GraticulePress press = namedOn(0);
        CHECKS.same("the first letter", press.spelled(0, 0, 0), 'n');
        CHECKS.same("the second letter", press.spelled(0, 0, 1), 'a');
        CHECKS.same("the last letter", press.spelled(0, 0, 3), 'e');
    }

    private static void blankBeyond() {
        GraticulePress press = namedOn(0);
        CHECKS.same("just beyond", press.spelled(0, 0, 4), ' ');
        CHECKS.same("far beyond", press.spelled(0, 0, MOST), ' ');
        Checks.tell(press, 0, "abcdefgh");
        CHECKS.same("the last of eight", press.spelled(0, 0, 7), 'h');
        CHECKS.same("beyond eight", press.spelled(0, 0, 8), ' ');
        Checks.tell(press, 0, "a");
        CHECKS.same("beyond one", press.spelled(0, 0, 1), ' ');
    }

    private static void blankWithoutAName() {
        GraticulePress press = namedOn(2);
        press.place(0, 0, 1);
        press.letter('a');
        CHECKS.same("a place that was told none", press.spelled(1, 2, 0), ' ');
        CHECKS.same("a day ahead of the first", press.spelled(0, 1, 0), ' ');
        CHECKS.same("far beyond no name", press.spelled(1, 2, MOST), ' ');
    }

    private static void spellingOfNoPlace() {
        CHECKS.noPlace("place 0 of none", () -> new GraticulePress().spelled(0, 0, 0));
        GraticulePress press = namedOn(0);
        for (int place : new int[] {-1, 1, 13, 14, LEAST, MOST}) {
            CHECKS.noPlace("place " + place, () -> press.spelled(place, 0, 0));
        }
    }

    private static void whichBelowZero() {
        GraticulePress press = namedOn(1);
        for (int which : new int[] {-1, -2, LEAST}) {
            CHECKS.noPlace("letter " + which, () -> press.spelled(0, 1, which));
            CHECKS.noPlace("letter " + which + " without a name",
                    () -> press.spelled(0, 0, which));
        }
    }

    private static void dayOutOfRange() {
        GraticulePress press = namedOn(0);
        for (int day : new int[] {-1, 10001, LEAST, MOST}) {
            CHECKS.noArgument("day " + day, () -> press.spelled(0, day, 0));
            CHECKS.noArgument("day " + day + ", beyond", () -> press.spelled(0, day, MOST));
        }
    }

    // ---- promise 6

    private static void daysThatPass() {
        CHECKS.same("1", new GraticulePress().pass(1), 1);
        CHECKS.same("1000", new GraticulePress().pass(1000), 1000);
        CHECKS.noArgument("0", () -> new GraticulePress().pass(0));
        CHECKS.noArgument("1001", () -> new GraticulePress().pass(1001));
    }

    private static void theDay() {
        GraticulePress press = new GraticulePress();
        CHECKS.same("the first days", press.pass(999), 999);
        CHECKS.same("those and more", press.pass(1), 1000);
        CHECKS.same("and more", press.pass(1000), 2000);
    }

    private static void daysOutOfRange() {
        GraticulePress press = new GraticulePress();
        for (int days : new int[] {0, -1, 1001, LEAST, MOST}) {
            CHECKS.noArgument("days " + days, () -> press.pass(days));
        }
        CHECKS.same("none went by", press.pass(1), 1);
    }

    private static void aboveTheLastDay() {
        GraticulePress press = new GraticulePress();
        for (int i = 1; i <= 9; i++) {
            press.pass(1000);
        }
        press.pass(1);
        CHECKS.noState("10001", () -> press.pass(1000));
        CHECKS.same("10000 itself", press.pass(999), 10000);
        CHECKS.noState("a day more", () -> press.pass(1));
        CHECKS.noState("a thousand more", () -> press.pass(1000));
    }

    // ---- exceptions

    private static void severalOfLetter() {
        GraticulePress press = new GraticulePress();
        Checks.type(press, "abcdefgh");
        CHECKS.noArgument("no letter, and eight there", () -> press.letter('A'));
    }

    private static void severalOfPlace() {
        GraticulePress press = new GraticulePress();
        for (int i = 0; i < 14; i++) {
            press.place(0, 0, 1);
        }
        CHECKS.noArgument("length, and fourteen there", () -> press.place(180, 0, 1));
        CHECKS.noArgument("breadth, and fourteen there", () -> press.place(0, 61, 1));
        CHECKS.noArgument("rank, and fourteen there", () -> press.place(0, 0, 6));
    }

    private static void severalOfName() {
        GraticulePress press = new GraticulePress();
        CHECKS.noPlace("no places, nothing typed", () -> press.name(0));
        press.place(0, 0, 1);
        CHECKS.noPlace("no such place, nothing typed", () -> press.name(1));
        CHECKS.noPlace("place -1, nothing typed", () -> press.name(-1));
    }

    private static void severalOfSpelled() {
        GraticulePress press = namedOn(0);
        CHECKS.noPlace("no such place, day -1", () -> press.spelled(1, -1, 0));
        CHECKS.noPlace("no such place, day 10001", () -> press.spelled(-1, 10001, 0));
        CHECKS.noPlace("which -1, day -1", () -> press.spelled(0, -1, -1));
        CHECKS.noPlace("which -1, day 10001", () -> press.spelled(0, 10001, -1));
    }

    private static void severalOfPass() {
        GraticulePress press = new GraticulePress();
        for (int i = 1; i <= 10; i++) {
            press.pass(1000);
        }
        CHECKS.noArgument("1001 of the last day", () -> press.pass(1001));
        CHECKS.noArgument("all there are, of the last day", () -> press.pass(MOST));
    }

    private static void refusedLetters(GraticulePress press) {
        CHECKS.noArgument("A", () -> press.letter('A'));
        Checks.type(press, "efgh");
        CHECKS.noState("a ninth", () -> press.letter('i'));
    }

    private static void refusedPlaces(GraticulePress press) {
        CHECKS.noArgument("length", () -> press.place(180, 0, 1));
        CHECKS.noArgument("rank", () -> press.place(16, 10, 6));
        CHECKS.noState("a fifteenth", () -> press.place(16, 10, 5));
        Checks.type(press, "efgh");
    }

    private static void refusedNames(GraticulePress press) {
        CHECKS.noPlace("place 14", () -> press.name(14));
        CHECKS.noState("a seventh name", () -> press.name(1));
        Checks.type(press, "efgh");
    }

    private static void refusedSpellings(GraticulePress press) {
        CHECKS.noPlace("place 14", () -> press.spelled(14, 0, 0));
        CHECKS.noPlace("which -1", () -> press.spelled(0, 0, -1));
        CHECKS.noArgument("day -1", () -> press.spelled(0, -1, 0));
        Checks.type(press, "efgh");
    }

    private static void refusedDays(GraticulePress press) {
        CHECKS.noArgument("no day", () -> press.pass(0));
        CHECKS.noArgument("1001 days", () -> press.pass(1001));
        CHECKS.noState("a day beyond the last", () -> press.pass(1));
        Checks.type(press, "efgh");
    }

    /** All that can be full is full: the places, the names of place 1, the days. */
    private static void changesNothing(Consumer<GraticulePress> refused) {
        GraticulePress press = new GraticulePress();
        press.sheet(0, 0, GraticulePress.PLATE);
        for (int i = 0; i < 14; i++) {
            press.place(i == 0 ? 15 : 0, i == 0 ? 10 : i, 2);
        }
        for (int i = 0; i < 6; i++) {
            Checks.tell(press, 1, "n");
        }
        Checks.tell(press, 0, "first");
        for (int i = 0; i < 10; i++) {
            press.pass(1000);
        }
        Checks.tell(press, 0, "last");
        Checks.type(press, "abcd");
        refused.accept(press);
        CHECKS.same("the dots and names of row 12", Checks.drawnRow(press, 0, 12),
                "*...................*last...............");
        CHECKS.same("the dots and names of row 1", Checks.drawnRow(press, 0, 1),
                "*n......................................");
        CHECKS.same("the worth", press.worth(0), 4);
        CHECKS.same("the name of the day ahead", Checks.spelling(press, 0, 9999), "first");
        CHECKS.same("the name of today", Checks.spelling(press, 0, 10000), "last");
        CHECKS.noPlace("no place more", () -> press.side(0, 14));
        CHECKS.noState("all eight letters are there", () -> press.letter('z'));
        CHECKS.same("the name pushes none", press.name(0), 0);
        CHECKS.same("the word that was typed", Checks.spelling(press, 0, 10000), "abcdefgh");
    }

    private static GraticulePress namedOn(int day) {
        GraticulePress press = new GraticulePress();
        for (int left = day; left > 0; left -= 1000) {
            press.pass(Math.min(left, 1000));
        }
        press.place(0, 0, 1);
        Checks.tell(press, 0, "name");
        return press;
    }
}
