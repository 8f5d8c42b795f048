/** Promises 7 to 12: sheet, dot, side, drawn, worth, best. */
public final class SheetsTest {
    private static final Checks CHECKS = new Checks("SheetsTest");

    public static void main(String[] args) {
        sheets();
        wrongSheets();
        dotsOfAPlate();
        dotsOfACone();
        placesOnASheet();
        wrongDots();
        sidesInTheirOrder();
        sidesAtTheEdges();
        ranks();
        placesAlike();
        namesMeetNoDots();
        wrongSides();
        drawings();
        wrongDrawings();
        worths();
        bestOfAll();
        bestBeatsWorth();
        wrongBest();
        CHECKS.end();
    }

    private static void sheets() {
        GraticulePress press = new GraticulePress();
        CHECKS.same("the least", press.sheet(-180, -60, GraticulePress.PLATE), 0);
        CHECKS.same("the most", press.sheet(150, 41, GraticulePress.CONE), 1);
        CHECKS.same("a third", press.sheet(0, 0, GraticulePress.PLATE), 2);
        CHECKS.same("a fourth", press.sheet(0, 0, GraticulePress.PLATE), 3);
        CHECKS.noState("a fifth", () -> press.sheet(0, 0, GraticulePress.PLATE));
        CHECKS.noArgument("a fifth out of range", () -> press.sheet(0, 0, 2));
        CHECKS.noPlace("the fifth", () -> press.worth(4));
    }

    private static void wrongSheets() {
        GraticulePress press = new GraticulePress();
        int[][] wrong = {{-181, 0, 0}, {151, 0, 0}, {0, -61, 0}, {0, 42, 0}, {0, 0, -1}, {0, 0, 2},
            {Integer.MAX_VALUE, 0, 0}, {0, Integer.MIN_VALUE, 0}, {0, 0, Integer.MAX_VALUE}};
        for (int[] sheet : wrong) {
            CHECKS.noArgument("sheet(" + sheet[0] + ", " + sheet[1] + ", " + sheet[2] + ")",
                    () -> press.sheet(sheet[0], sheet[1], sheet[2]));
        }
        CHECKS.same("none was laid", press.sheet(0, 0, 0), 0);
    }

    private static void dotsOfAPlate() {
        GraticulePress press = new GraticulePress();
        press.sheet(-20, -10, GraticulePress.PLATE);
        int[][] due = {{-20, -10, 0, 0}, {-19, -9, 1, 1}, {-18, -8, 2, 2}, {-5, 0, 20, 12},
            {9, 9, 38, 22}, {8, 8, 37, 21}, {-20, 4, 0, 16}, {-17, -5, 4, 6}};
        for (int i = 0; i < due.length; i++) {
            press.place(due[i][0], due[i][1], 1);
            CHECKS.same("plate: column of " + i, press.dot(0, i, false), due[i][2]);
            CHECKS.same("plate: row of " + i, press.dot(0, i, true), due[i][3]);
        }
    }

    private static void dotsOfACone() {
        GraticulePress press = new GraticulePress();
        press.sheet(100, 20, GraticulePress.CONE);
        // At 15 above the beginning floats fall below the 6 that doubles give.
        int[][] due = {{100, 20, 0, 0}, {129, 20, 38, 0}, {100, 39, 7, 22}, {129, 39, 31, 22},
            {115, 25, 20, 6}, {114, 20, 18, 0}, {116, 30, 21, 12}, {100, 35, 5, 18},
            {100, 25, 2, 6}, {114, 39, 19, 22}};
        for (int i = 0; i < due.length; i++) {
            press.place(due[i][0], due[i][1], 1);
            CHECKS.same("cone: column of " + i, press.dot(0, i, false), due[i][2]);
            CHECKS.same("cone: row of " + i, press.dot(0, i, true), due[i][3]);
        }
    }

    private static void placesOnASheet() {
        GraticulePress press = new GraticulePress();
        press.place(0, 0, 1);
        press.place(29, 19, 1);
        press.place(-1, 0, 1);
        press.place(30, 0, 1);
        press.place(0, -1, 1);
        press.place(0, 20, 1);
        press.place(-180, -60, 1);
        for (int kind = GraticulePress.PLATE; kind <= GraticulePress.CONE; kind++) {
            press.sheet(0, 0, kind);
            CHECKS.same("the first corner", press.dot(kind, 0, true), 0);
            CHECKS.same("the last corner", press.dot(kind, 1, true), 22);
            for (int place = 2; place <= 6; place++) {
                CHECKS.same("no column", press.dot(kind, place, false), GraticulePress.NONE);
                CHECKS.same("no row", press.dot(kind, place, true), GraticulePress.NONE);
            }
        }
        CHECKS.same("a place not on it is told its name", Checks.tell(press, 3, "far"), 0);
        CHECKS.same("it has no side", press.side(0, 3), GraticulePress.NONE);
        CHECKS.same("it has no worth", press.worth(0), 0);
    }

    private static void wrongDots() {
        GraticulePress press = new GraticulePress();
        press.place(0, 0, 1);
        CHECKS.noPlace("dot without sheets", () -> press.dot(0, 0, true));
        press.sheet(0, 0, 0);
        for (int number : new int[] {-1, 1, 4, 14, Integer.MIN_VALUE, Integer.MAX_VALUE}) {
            CHECKS.noPlace("dot on sheet " + number, () -> press.dot(number, 0, true));
            CHECKS.noPlace("dot of place " + number, () -> press.dot(0, number, false));
        }
    }

    private static void sidesInTheirOrder() {
        GraticulePress press = new GraticulePress();
        press.sheet(0, 0, GraticulePress.PLATE);
        press.place(15, 10, 1);
        Checks.tell(press, 0, "abcde");
        CHECKS.same("right", press.side(0, 0), 0);
        CHECKS.same("right, drawn", Checks.drawnRow(press, 0, 12),
                "....................*abcde..............");
        press.place(18, 10, 1);
        CHECKS.same("left", press.side(0, 0), 1);
        CHECKS.same("left, drawn", Checks.drawnRow(press, 0, 12),
                "...............abcde*...*...............");
        press.place(12, 10, 1);
        CHECKS.same("above", press.side(0, 0), 2);
        CHECKS.same("above, drawn", Checks.drawnRow(press, 0, 13),
                "..................abcde.................");
        press.place(15, 11, 1);
        CHECKS.same("below", press.side(0, 0), 3);
        CHECKS.same("below, drawn", Checks.drawnRow(press, 0, 11),
                "..................abcde.................");
        press.place(14, 9, 1);
        CHECKS.same("below is a dot of row 10", press.dot(0, 4, true), 10);
        CHECKS.same("still below", press.side(0, 0), 3);
        CHECKS.same("it had six letters", Checks.tell(press, 0, "abcdef"), 0);
        CHECKS.same("below, of six letters", Checks.drawnRow(press, 0, 11),
                ".................abcdef.................");
        GraticulePress other = new GraticulePress();
        other.sheet(0, 0, GraticulePress.PLATE);
        int[][] around = {{5, 5}, {6, 5}, {4, 5}, {5, 6}, {5, 4}};
        for (int[] place : around) {
            other.place(place[0], place[1], 1);
        }
        Checks.tell(other, 0, "ab");
        CHECKS.same("rows 6, 7 and 4", other.side(0, 0), 3);
    }

    private static void sidesAtTheEdges() {
        GraticulePress press = new GraticulePress();
        press.sheet(0, 0, GraticulePress.PLATE);
        press.place(29, 10, 1);
        press.place(0, 19, 1);
        press.place(23, 0, 1);
        press.place(24, 2, 1);
        press.place(5, 5, 1);
        Checks.tell(press, 0, "a");
        CHECKS.same("the last column", press.side(0, 0), 0);
        Checks.tell(press, 0, "ab");
        CHECKS.same("beyond the last column", press.side(0, 0), 1);
        Checks.tell(press, 1, "abcdefgh");
        CHECKS.same("right of the first column", press.side(0, 1), 0);
        CHECKS.same("column 30", press.dot(0, 2, false), 30);
        Checks.tell(press, 2, "abcdefgh");
        CHECKS.same("ends at column 38", press.side(0, 2), 0);
        CHECKS.same("column 32", press.dot(0, 3, false), 32);
        Checks.tell(press, 3, "abcdefgh");
        CHECKS.same("would end at column 40", press.side(0, 3), 1);
        Checks.tell(press, 3, "abcdefg");
        CHECKS.same("ends at column 39", press.side(0, 3), 0);
        Checks.tell(press, 4, "abcdef");
        press.place(7, 5, 1);
        CHECKS.same("starts at column 0", press.side(0, 4), 1);
        Checks.tell(press, 4, "abcdefg");
        CHECKS.same("would start ahead of column 0", press.side(0, 4), 2);
        cornersOfTheSheet();
    }

    private static void cornersOfTheSheet() {
        GraticulePress press = new GraticulePress();
        press.sheet(0, 0, GraticulePress.PLATE);
        press.place(0, 0, 1);
        press.place(1, 0, 1);
        Checks.tell(press, 0, "ab");
        CHECKS.same("above would start ahead of column 0", press.side(0, 0), GraticulePress.NONE);
        Checks.tell(press, 0, "a");
        CHECKS.same("above, half of one is none", press.side(0, 0), 2);
        press.place(0, 1, 1);
        CHECKS.same("below the first row is nothing", press.side(0, 0), GraticulePress.NONE);
        press.place(10, 19, 1);
        press.place(12, 19, 1);
        press.place(8, 19, 1);
        Checks.tell(press, 3, "abc");
        CHECKS.same("row 23 is there", press.side(0, 3), 2);
        CHECKS.same("row 23 drawn", Checks.drawnRow(press, 0, 23).substring(12, 15), "abc");
    }

    private static void ranks() {
        GraticulePress press = new GraticulePress();
        press.sheet(0, 0, GraticulePress.PLATE);
        press.place(6, 10, 2);
        press.place(18, 10, 3);
        press.place(24, 10, 1);
        Checks.tell(press, 0, "abcdefgh");
        CHECKS.same("alone it stands right", press.side(0, 0), 0);
        CHECKS.same("the greater pushes it", Checks.tell(press, 1, "ijklmnop"), 1);
        CHECKS.same("the greater stands left", press.side(0, 1), 1);
        CHECKS.same("the lower one stands left", press.side(0, 0), 1);
        GraticulePress other = new GraticulePress();
        other.sheet(0, 0, GraticulePress.PLATE);
        other.place(6, 10, 3);
        other.place(18, 10, 2);
        other.place(24, 10, 1);
        Checks.tell(other, 1, "ijklmnop");
        CHECKS.same("alone it stands left", other.side(0, 1), 1);
        CHECKS.same("the greater one of the lower number", Checks.tell(other, 0, "abcdefgh"), 1);
        CHECKS.same("goes above", other.side(0, 1), 2);
    }

    private static void placesAlike() {
        GraticulePress press = new GraticulePress();
        press.sheet(0, 0, GraticulePress.PLATE);
        press.place(6, 10, 4);
        press.place(6, 10, 4);
        Checks.tell(press, 1, "second");
        CHECKS.same("alone", press.side(0, 1), 0);
        CHECKS.same("the lowest place first", Checks.tell(press, 0, "first"), 1);
        CHECKS.same("the first", press.side(0, 0), 0);
        CHECKS.same("the second", press.side(0, 1), 1);
        CHECKS.same("alike dots are one", Checks.drawnRow(press, 0, 12),
                "..second*first..........................");
    }

    private static void namesMeetNoDots() {
        GraticulePress press = new GraticulePress();
        press.sheet(0, 0, GraticulePress.PLATE);
        press.place(15, 10, 5);
        Checks.tell(press, 0, "abcdefgh");
        press.place(21, 10, 1);
        CHECKS.same("a dot in the last of its columns", press.side(0, 0), 1);
        CHECKS.same("no letter on a dot", press.drawn(0, 12, 28), '*');
        Checks.tell(press, 0, "abcdefg");
        CHECKS.same("a dot beside the last letter is none", press.side(0, 0), 0);
    }

    private static void wrongSides() {
        GraticulePress press = new GraticulePress();
        press.place(0, 0, 1);
        CHECKS.noPlace("side without sheets", () -> press.side(0, 0));
        press.sheet(0, 0, 0);
        CHECKS.same("without a name", press.side(0, 0), GraticulePress.NONE);
        for (int number : new int[] {-1, 1, 4, 14, Integer.MIN_VALUE, Integer.MAX_VALUE}) {
            CHECKS.noPlace("side on sheet " + number, () -> press.side(number, 0));
            CHECKS.noPlace("side of place " + number, () -> press.side(0, number));
        }
    }

    private static void drawings() {
        GraticulePress press = new GraticulePress();
        press.place(3, 5, 2);
        Checks.tell(press, 0, "bay");
        press.sheet(0, 0, GraticulePress.PLATE);
        CHECKS.same("laid later, the names stand", Checks.drawnRow(press, 0, 6),
                "....*bay................................");
        for (int row : new int[] {0, 5, 7, 23}) {
            CHECKS.same("row " + row, Checks.drawnRow(press, 0, row), ".".repeat(40));
        }
        press.pass(3);
        Checks.tell(press, 0, "cape");
        CHECKS.same("as it is today", Checks.drawnRow(press, 0, 6),
                "....*cape...............................");
        press.place(4, 5, 1);
        CHECKS.same("a new dot is drawn at once", Checks.drawnRow(press, 0, 6),
                "cape**..................................");
    }

    private static void wrongDrawings() {
        GraticulePress press = new GraticulePress();
        CHECKS.noPlace("drawn without sheets", () -> press.drawn(0, 0, 0));
        press.sheet(0, 0, 0);
        CHECKS.same("the last sign", press.drawn(0, 23, 39), '.');
        for (int number : new int[] {-1, 40, Integer.MIN_VALUE, Integer.MAX_VALUE}) {
            CHECKS.noPlace("drawn on sheet " + number, () -> press.drawn(number, 0, 0));
            CHECKS.noPlace("drawn in row " + number, () -> press.drawn(0, number, 0));
            CHECKS.noPlace("drawn in column " + number, () -> press.drawn(0, 0, number));
        }
        CHECKS.noPlace("row 24", () -> press.drawn(0, 24, 0));
        CHECKS.noPlace("sheet 1", () -> press.drawn(1, 0, 0));
    }

    private static void worths() {
        GraticulePress press = new GraticulePress();
        press.sheet(0, 0, GraticulePress.PLATE);
        press.sheet(100, 0, GraticulePress.PLATE);
        CHECKS.same("of nothing", press.worth(0), 0);
        press.place(10, 10, 4);
        CHECKS.same("of a place without a name", press.worth(0), 0);
        Checks.tell(press, 0, "a");
        CHECKS.same("of a name", press.worth(0), 4);
        CHECKS.same("of another sheet", press.worth(1), 0);
        press.place(0, 0, 5);
        Checks.tell(press, 1, "abc");
        CHECKS.same("of two", press.worth(0), 9);
        press.place(1, 0, 1);
        CHECKS.same("of one that is left out", press.worth(0), 4);
        for (int number : new int[] {-1, 2, 4, Integer.MIN_VALUE, Integer.MAX_VALUE}) {
            CHECKS.noPlace("worth(" + number + ")", () -> press.worth(number));
        }
    }

    private static void bestOfAll() {
        GraticulePress press = new GraticulePress();
        press.sheet(0, 0, GraticulePress.PLATE);
        CHECKS.same("best of nothing", press.best(0), 0);
        press.place(0, 0, 5);
        CHECKS.same("best without names", press.best(0), 0);
        Checks.tell(press, 0, "abc");
        CHECKS.same("best of one", press.best(0), 5);
        press.place(1, 0, 3);
        CHECKS.same("best of one that can't stand", press.best(0), 0);
        Checks.tell(press, 1, "abc");
        CHECKS.same("best of another", press.best(0), 3);
    }

    private static void bestBeatsWorth() {
        GraticulePress press = new GraticulePress();
        press.sheet(0, 0, GraticulePress.PLATE);
        press.place(6, 0, 2);
        press.place(0, 0, 1);
        press.place(0, 1, 1);
        press.place(4, 2, 1);
        press.place(7, 0, 1);
        Checks.tell(press, 0, "abcdefg");
        CHECKS.same("the greater's first side is the left one", press.side(0, 0), 1);
        Checks.tell(press, 1, "hijklm");
        CHECKS.same("the lower one is left out", press.side(0, 1), GraticulePress.NONE);
        CHECKS.same("placed by rank", press.worth(0), 2);
        CHECKS.same("the greater could stand above", press.best(0), 3);
        CHECKS.same("asking moves nothing", press.side(0, 0), 1);
        CHECKS.same("asked again", press.best(0), 3);
        greaterOneLeftOut();
    }

    private static void greaterOneLeftOut() {
        GraticulePress press = new GraticulePress();
        press.sheet(0, 0, GraticulePress.PLATE);
        int[][] places = {{0, 0, 5}, {7, 0, 4}, {8, 0, 3}, {0, 1, 3}, {4, 1, 1}, {6, 1, 1},
            {7, 1, 1}, {8, 1, 1}, {11, 0, 1}};
        for (int[] place : places) {
            press.place(place[0], place[1], place[2]);
        }
        Checks.tell(press, 0, "abcdefgh");
        CHECKS.same("eight letters right of the corner", press.worth(0), 5);
        Checks.tell(press, 1, "ijklmnop");
        CHECKS.same("both can't stand", press.best(0), 5);
        Checks.tell(press, 2, "qrs");
        CHECKS.same("a third stands beside them", press.best(0), 8);
        CHECKS.same("as by rank", press.worth(0), 8);
    }

    private static void wrongBest() {
        GraticulePress press = new GraticulePress();
        CHECKS.noPlace("best without sheets", () -> press.best(0));
        press.sheet(0, 0, GraticulePress.PLATE);
        press.sheet(0, 0, GraticulePress.CONE);
        press.sheet(100, 0, GraticulePress.CONE);
        for (int i = 0; i < 5; i++) {
            press.place(3 * i, 3 * i, i + 1);
        }
        press.place(29, 19, 5);
        press.place(101, 0, 5);
        Checks.tell(press, 6, "elsewher");
        for (int i = 0; i < 4; i++) {
            Checks.tell(press, i, "abc");
        }
        CHECKS.same("four names", press.best(0), 10);
        Checks.tell(press, 4, "abc");
        CHECKS.noState("five names", () -> press.best(0));
        CHECKS.noState("five names of a cone", () -> press.best(1));
        CHECKS.same("the worth of five", press.worth(0), 15);
        CHECKS.same("a sheet with one name", press.best(2), 5);
        for (int number : new int[] {-1, 3, 4, Integer.MIN_VALUE, Integer.MAX_VALUE}) {
            CHECKS.noPlace("best(" + number + ")", () -> press.best(number));
        }
    }
}
