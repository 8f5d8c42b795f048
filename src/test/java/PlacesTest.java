/** Promises 1 to 6: a new object, letter, place, name, spelled, pass. */
public final class PlacesTest {
    private static final Checks CHECKS = new Checks("PlacesTest");

    public static void main(String[] args) {
        aNewObject();
        letters();
        wrongLetters();
        places();
        wrongPlaces();
        aPlacePushesNothing();
        names();
        wrongNames();
        namesPushOthers();
        namesPushAcrossSheets();
        spellings();
        wrongSpellings();
        days();
        wrongDays();
        CHECKS.end();
    }

    private static void aNewObject() {
        GraticulePress press = new GraticulePress();
        CHECKS.noPlace("new: spelled(0)", () -> press.spelled(0, 0, 0));
        CHECKS.noPlace("new: worth(0)", () -> press.worth(0));
        CHECKS.noPlace("new: printed(0)", () -> press.printed(0, 0, 0, 0));
        CHECKS.same("new: the first place", press.place(0, 0, 1), 0);
        CHECKS.same("new: the first sheet", press.sheet(0, 0, GraticulePress.PLATE), 0);
        CHECKS.same("new: the first letter", press.letter('a'), 1);
        press.name(0);
        CHECKS.same("new: the day 0 is today", press.spelled(0, 0, 0), 'a');
        CHECKS.same("new: the first day that passes", press.pass(1), 1);
    }

    private static void letters() {
        GraticulePress press = new GraticulePress();
        press.place(0, 0, 1);
        CHECKS.same("letter a", press.letter('a'), 1);
        CHECKS.same("letter z", press.letter('z'), 2);
        CHECKS.same("letter z again", press.letter('z'), 3);
        press.name(0);
        CHECKS.same("the letters in their order", Checks.spelling(press, 0, 0), "azz");
        for (int i = 1; i <= 8; i++) {
            CHECKS.same("letter " + i, press.letter('m'), i);
        }
    }

    private static void wrongLetters() {
        GraticulePress press = new GraticulePress();
        press.place(0, 0, 1);
        for (char letter : new char[] {'`', '{', 'A', 'Z', ' ', 0, 233, 353, 65535}) {
            CHECKS.noArgument("letter " + (int) letter, () -> press.letter(letter));
        }
        Checks.type(press, "abcdefgh");
        CHECKS.noState("a ninth letter", () -> press.letter('i'));
        CHECKS.noArgument("a ninth letter that is none", () -> press.letter('I'));
        press.name(0);
        CHECKS.same("eight letters alone", Checks.spelling(press, 0, 0), "abcdefgh");
    }

    private static void places() {
        GraticulePress press = new GraticulePress();
        CHECKS.same("the least of all", press.place(-180, -60, 1), 0);
        CHECKS.same("the most of all", press.place(179, 60, 5), 1);
        for (int i = 2; i < 14; i++) {
            CHECKS.same("place " + i, press.place(i, i, 3), i);
        }
        CHECKS.noState("a fifteenth place", () -> press.place(0, 0, 1));
        CHECKS.noArgument("a fifteenth place out of range", () -> press.place(0, 0, 0));
        CHECKS.noPlace("the fifteenth place", () -> press.spelled(14, 0, 0));
    }

    private static void wrongPlaces() {
        GraticulePress press = new GraticulePress();
        int[][] wrong = {{-181, 0, 1}, {180, 0, 1}, {0, -61, 1}, {0, 61, 1}, {0, 0, 0}, {0, 0, 6},
            {Integer.MIN_VALUE, 0, 1}, {0, Integer.MAX_VALUE, 1}, {0, 0, Integer.MIN_VALUE}};
        for (int[] place : wrong) {
            CHECKS.noArgument("place(" + place[0] + ", " + place[1] + ", " + place[2] + ")",
                    () -> press.place(place[0], place[1], place[2]));
        }
        CHECKS.same("none was made", press.place(0, 0, 1), 0);
    }

    private static void aPlacePushesNothing() {
        GraticulePress press = new GraticulePress();
        press.sheet(0, 0, GraticulePress.PLATE);
        press.place(15, 10, 1);
        press.place(0, 0, 1);
        Checks.tell(press, 0, "a");
        CHECKS.same("beside no dot", press.side(0, 0), 0);
        press.place(16, 10, 5);
        CHECKS.same("beside a new dot", press.side(0, 0), 1);
        CHECKS.same("the dot is where the letter was", press.drawn(0, 12, 21), '*');
        CHECKS.same("the new dot is pushed for by none", Checks.tell(press, 1, "b"), 0);
    }

    private static void names() {
        GraticulePress press = new GraticulePress();
        press.place(0, 0, 1);
        CHECKS.same("on no sheet", Checks.tell(press, 0, "abc"), 0);
        CHECKS.noState("nothing is typed then", () -> press.name(0));
        CHECKS.same("a new word", press.letter('x'), 1);
        press.pass(5);
        press.name(0);
        CHECKS.same("the word of then", Checks.spelling(press, 0, 4), "abc");
        CHECKS.same("the word of now", Checks.spelling(press, 0, 5), "x");
        for (int i = 3; i <= 6; i++) {
            CHECKS.same("telling " + i, Checks.tell(press, 0, "n"), 0);
        }
        Checks.type(press, "seven");
        CHECKS.noState("a seventh name", () -> press.name(0));
        press.pass(1);
        CHECKS.noState("a seventh name on another day", () -> press.name(0));
        press.place(1, 1, 1);
        CHECKS.same("another place still can", press.name(1), 0);
        CHECKS.same("the word was kept", Checks.spelling(press, 1, 6), "seven");
    }

    private static void wrongNames() {
        GraticulePress press = new GraticulePress();
        CHECKS.noPlace("name(0) without places", () -> press.name(0));
        press.place(0, 0, 1);
        CHECKS.noState("nothing typed", () -> press.name(0));
        CHECKS.noPlace("nothing typed, no place", () -> press.name(1));
        Checks.type(press, "kept");
        for (int place : new int[] {-1, 1, 14, Integer.MIN_VALUE, Integer.MAX_VALUE}) {
            CHECKS.noPlace("name(" + place + ")", () -> press.name(place));
        }
        press.name(0);
        CHECKS.same("a call that throws keeps the word", Checks.spelling(press, 0, 0), "kept");
    }

    private static void namesPushOthers() {
        GraticulePress press = new GraticulePress();
        press.sheet(0, 0, GraticulePress.PLATE);
        press.place(12, 10, 1);
        press.place(15, 10, 5);
        CHECKS.same("the first", Checks.tell(press, 0, "abc"), 0);
        CHECKS.same("stands right", press.side(0, 0), 0);
        CHECKS.same("the first's own is not counted", Checks.tell(press, 0, "abcd"), 0);
        CHECKS.same("stands left", press.side(0, 0), 1);
        CHECKS.same("back right", Checks.tell(press, 0, "abc"), 0);
        CHECKS.same("no letters meet", Checks.tell(press, 1, "b"), 0);
        CHECKS.same("eight letters right of the greater one",
                Checks.tell(press, 1, "bbbbbbbb"), 0);
        CHECKS.same("pushed by a dot", press.place(21, 10, 1), 2);
        CHECKS.same("the greater stands left", press.side(0, 1), 2);
        CHECKS.same("still right", press.side(0, 0), 0);
        leftOutAndBack();
    }

    private static void leftOutAndBack() {
        GraticulePress press = new GraticulePress();
        press.sheet(0, 0, GraticulePress.PLATE);
        press.place(0, 0, 1);
        press.place(3, 0, 1);
        press.place(0, 1, 5);
        CHECKS.same("a corner", Checks.tell(press, 0, "a"), 0);
        CHECKS.same("it stands right", press.side(0, 0), 0);
        CHECKS.same("one right of it", Checks.tell(press, 1, "bbb"), 0);
        press.place(1, 0, 1);
        CHECKS.same("a dot is in its way", press.side(0, 0), GraticulePress.NONE);
        CHECKS.same("a greater one", Checks.tell(press, 2, "ccc"), 0);
        GraticulePress other = new GraticulePress();
        other.sheet(0, 0, GraticulePress.PLATE);
        other.place(0, 0, 1);
        other.place(9, 0, 5);
        other.place(15, 0, 1);
        other.place(0, 1, 1);
        Checks.tell(other, 0, "abcdefgh");
        CHECKS.same("free to the right", other.side(0, 0), 0);
        CHECKS.same("the greater's right is free", Checks.tell(other, 1, "ijk"), 0);
        CHECKS.same("the greater goes left: one is left out",
                Checks.tell(other, 1, "ijklmnop"), 1);
        CHECKS.same("left out", other.side(0, 0), GraticulePress.NONE);
        CHECKS.same("left out no more", Checks.tell(other, 1, "q"), 1);
        CHECKS.same("back at the right", other.side(0, 0), 0);
    }

    private static void namesPushAcrossSheets() {
        GraticulePress press = new GraticulePress();
        press.sheet(0, 0, GraticulePress.PLATE);
        press.sheet(0, 0, GraticulePress.PLATE);
        press.sheet(1, 0, GraticulePress.PLATE);
        press.sheet(100, 0, GraticulePress.PLATE);
        press.place(10, 10, 2);
        press.place(18, 10, 5);
        press.place(22, 10, 1);
        Checks.tell(press, 0, "abcdef");
        CHECKS.same("right on sheet 0", press.side(0, 0), 0);
        CHECKS.same("pushed on three sheets of four", Checks.tell(press, 1, "ijklmn"), 3);
        CHECKS.same("left on sheet 1", press.side(1, 0), 1);
        CHECKS.same("pushed back on all three", Checks.tell(press, 1, "i"), 3);
        press.pass(1);
        CHECKS.same("days push nothing", press.side(2, 0), 0);
    }

    private static void spellings() {
        GraticulePress press = new GraticulePress();
        press.place(0, 0, 1);
        press.place(1, 0, 1);
        CHECKS.same("without a name", press.spelled(0, 0, 0), ' ');
        press.pass(10);
        Checks.tell(press, 0, "urbs");
        press.pass(10);
        Checks.tell(press, 0, "town");
        Checks.tell(press, 0, "city");
        CHECKS.same("ahead of all", Checks.spelling(press, 0, 9), "");
        CHECKS.same("on the day itself", Checks.spelling(press, 0, 10), "urbs");
        CHECKS.same("the last day of one", Checks.spelling(press, 0, 19), "urbs");
        CHECKS.same("the last of two on a day", Checks.spelling(press, 0, 20), "city");
        CHECKS.same("on a day to come", Checks.spelling(press, 0, 10000), "city");
        CHECKS.same("the last letter", press.spelled(0, 20, 3), 'y');
        CHECKS.same("beyond the word", press.spelled(0, 20, 4), ' ');
        CHECKS.same("far beyond", press.spelled(0, 20, Integer.MAX_VALUE), ' ');
        CHECKS.same("another place has none", press.spelled(1, 20, 0), ' ');
    }

    private static void wrongSpellings() {
        GraticulePress press = new GraticulePress();
        press.place(0, 0, 1);
        for (int place : new int[] {-1, 1, 14, Integer.MIN_VALUE, Integer.MAX_VALUE}) {
            CHECKS.noPlace("spelled(" + place + ")", () -> press.spelled(place, 0, 0));
        }
        for (int day : new int[] {-1, 10001, Integer.MIN_VALUE, Integer.MAX_VALUE}) {
            CHECKS.noArgument("spelled on " + day, () -> press.spelled(0, day, 0));
        }
        for (int which : new int[] {-1, Integer.MIN_VALUE}) {
            CHECKS.noPlace("letter " + which, () -> press.spelled(0, 0, which));
            CHECKS.noPlace("letter " + which + ", wrong day",
                    () -> press.spelled(0, 10001, which));
        }
        CHECKS.noPlace("no place, wrong day", () -> press.spelled(1, -1, 0));
        CHECKS.same("the last day", press.spelled(0, 10000, 0), ' ');
    }

    private static void days() {
        GraticulePress press = new GraticulePress();
        CHECKS.same("a day", press.pass(1), 1);
        CHECKS.same("all that go at once", press.pass(1000), 1001);
        for (int i = 2; i <= 9; i++) {
            CHECKS.same("on", press.pass(1000), i * 1000 + 1);
        }
        CHECKS.noState("one too many", () -> press.pass(1000));
        CHECKS.same("up to the last day", press.pass(999), 10000);
        CHECKS.noState("beyond the last day", () -> press.pass(1));
        CHECKS.noArgument("beyond, and wrong", () -> press.pass(1001));
        press.place(0, 0, 1);
        Checks.tell(press, 0, "end");
        CHECKS.same("a name of the last day", Checks.spelling(press, 0, 10000), "end");
        CHECKS.same("none ahead of it", Checks.spelling(press, 0, 9999), "");
    }

    private static void wrongDays() {
        GraticulePress press = new GraticulePress();
        for (int days : new int[] {0, -1, 1001, Integer.MIN_VALUE, Integer.MAX_VALUE}) {
            CHECKS.noArgument("pass(" + days + ")", () -> press.pass(days));
        }
        CHECKS.same("no day went by", press.pass(1), 1);
    }
}
