import java.util.function.Consumer;

/**
 * Each sentence of "Sheets", of "Exceptions" and of promises 7 to 12 that names a boundary case,
 * by a test of its own.
 */
public final class SheetBoundariesTest {
    private static final Checks CHECKS = new Checks("SheetBoundariesTest");
    private static final int LEAST = Integer.MIN_VALUE, MOST = Integer.MAX_VALUE;
    private static final int PLATE = GraticulePress.PLATE, CONE = GraticulePress.CONE;
    private static final int NONE = GraticulePress.NONE;
    private static final int RIGHT = 0, LEFT = 1, ABOVE = 2, BELOW = 3;
    private static final String WORD = "abcdefgh";
    private static final int[] PLATE_COLUMNS = {0, 1, 2, 4, 5, 6, 8, 9, 10, 12, 13, 14, 16, 17, 18,
        20, 21, 22, 24, 25, 26, 28, 29, 30, 32, 33, 34, 36, 37, 38};
    private static final int[] ALL_ROWS = {0, 1, 2, 3, 4, 6, 7, 8, 9, 10, 12, 13, 14, 15, 16, 18,
        19, 20, 21, 22};

    public static void main(String[] args) {
        constants();
        sheetsAndDots();
        wordsBesideDots();
        wordsThatMustNotMeet();
        ranksAndWorth();
        sheet();
        dotAndSide();
        drawnAndWorth();
        best();
        exceptions();
        CHECKS.end();
    }

    // ---- the sentences

    private static void constants() {
        CHECKS.sentence("constants", "NONE = -1: There is none.",
                () -> CHECKS.same("NONE", GraticulePress.NONE, -1));
        CHECKS.sentence("constants", "PLATE = 0, CONE = 1: Kinds of projection.", () -> {
            CHECKS.same("PLATE", GraticulePress.PLATE, 0);
            CHECKS.same("CONE", GraticulePress.CONE, 1);
        });
    }

    private static void sheetsAndDots() {
        CHECKS.sentence("Sheets", "Sheets are numbered from 0, at most 4",
                SheetBoundariesTest::fourSheets);
        CHECKS.sentence("Sheets", "has the places with a length up to 29 above that",
                SheetBoundariesTest::lengthsOfASheet);
        CHECKS.sentence("Sheets", "and a breadth up to 19 above",
                SheetBoundariesTest::breadthsOfASheet);
        CHECKS.sentence("Sheets", "It has 24 rows, from 0 below",
                SheetBoundariesTest::rowsOfASheet);
        CHECKS.sentence("Sheets", "and 40 columns", SheetBoundariesTest::columnsOfASheet);
        CHECKS.sentence("Sheets", "40 times ... divided by 30, rounded down",
                SheetBoundariesTest::columnsOfAPlate);
        CHECKS.sentence("Sheets", "24 times ... divided by 20, rounded down", () -> rowsOf(PLATE));
        CHECKS.sentence("Sheets", "By the kind CONE the row is alike", () -> rowsOf(CONE));
        CHECKS.sentence("Sheets", "the column is found in floats",
                SheetBoundariesTest::columnsOfACone);
        CHECKS.sentence("Sheets", "each as a float", SheetBoundariesTest::floatsOfACone);
        CHECKS.sentence("Sheets", "cut to a whole number", SheetBoundariesTest::cutOfACone);
        CHECKS.sentence("Sheets", "it is always within the sheet",
                SheetBoundariesTest::withinTheCone);
        CHECKS.sentence("Sheets", "Where places are, there are dots.",
                SheetBoundariesTest::dotsAlike);
    }

    private static void wordsBesideDots() {
        CHECKS.sentence("Sheets", "RIGHT, 0: in its row, its first letter in the next column",
                () -> standsAt(RIGHT, new int[][] {{3, 5}}));
        CHECKS.sentence("Sheets", "LEFT, 1: in its row, its last letter in the column ahead",
                SheetBoundariesTest::standsLeft);
        CHECKS.sentence("Sheets",
                "ABOVE, 2 ... in the next row ... half of its letters, rounded down",
                () -> standsAt(ABOVE, new int[][] {{4, 5}, {5, 5}, {3, 5}}));
        CHECKS.sentence("Sheets",
                "or BELOW, 3 ... the one ahead ... half of its letters, rounded down",
                () -> standsAt(BELOW, new int[][] {{4, 5}, {5, 5}, {3, 5}, {4, 6}}));
        CHECKS.sentence("RIGHT", "It must be all on the sheet",
                SheetBoundariesTest::rightOnTheSheet);
        CHECKS.sentence("LEFT", "It must be all on the sheet", SheetBoundariesTest::leftOnTheSheet);
        CHECKS.sentence("ABOVE", "It must be all on the sheet",
                SheetBoundariesTest::aboveOnTheSheet);
        CHECKS.sentence("BELOW", "It must be all on the sheet",
                SheetBoundariesTest::belowOnTheSheet);
        CHECKS.sentence("the last row", "It must be all on the sheet",
                SheetBoundariesTest::aboveTheLastDots);
        CHECKS.sentence("the row 0", "It must be all on the sheet",
                SheetBoundariesTest::belowTheFirstDots);
    }

    private static void wordsThatMustNotMeet() {
        CHECKS.sentence("RIGHT", "and on no dot", SheetBoundariesTest::dotsAtTheRight);
        CHECKS.sentence("LEFT", "and on no dot", SheetBoundariesTest::dotsAtTheLeft);
        CHECKS.sentence("ABOVE", "and on no dot", SheetBoundariesTest::dotsAbove);
        CHECKS.sentence("BELOW", "and on no dot", SheetBoundariesTest::dotsBelow);
        CHECKS.sentence("a dot without a name, of a lower rank, made later", "and on no dot",
                SheetBoundariesTest::dotsOfAnyPlace);
        CHECKS.sentence("RIGHT", "and on no letter of another name",
                SheetBoundariesTest::lettersAtTheRight);
        CHECKS.sentence("LEFT", "and on no letter of another name",
                SheetBoundariesTest::lettersAtTheLeft);
        CHECKS.sentence("ABOVE", "and on no letter of another name",
                SheetBoundariesTest::lettersAbove);
        CHECKS.sentence("BELOW", "and on no letter of another name",
                SheetBoundariesTest::lettersBelow);
    }

    private static void ranksAndWorth() {
        CHECKS.sentence("Sheets", "names of a day are placed by rank, the greatest first",
                SheetBoundariesTest::greatestFirst);
        CHECKS.sentence("Sheets", "of alike ones the lowest place first",
                SheetBoundariesTest::lowestPlaceFirst);
        CHECKS.sentence("Sheets", "each at the first of the four where it may stand",
                SheetBoundariesTest::firstOfTheFour);
        CHECKS.sentence("Sheets", "if there is none, it is left out", SheetBoundariesTest::leftOut);
        CHECKS.sentence("Sheets",
                "Its worth is the sum of the ranks of names that are not left out.",
                SheetBoundariesTest::sumOfTheRanks);
    }

    private static void sheet() {
        CHECKS.sentence("sheet", "length: -180 to 150", SheetBoundariesTest::lengthsOfSheets);
        CHECKS.sentence("sheet", "breadth: -60 to 41", SheetBoundariesTest::breadthsOfSheets);
        CHECKS.sentence("sheet", "kind: PLATE or CONE", SheetBoundariesTest::kindsOfSheets);
        CHECKS.sentence("sheet", "Lays a sheet out.", SheetBoundariesTest::laidLate);
        CHECKS.sentence("sheet", "Returns its number.", SheetBoundariesTest::numbersOfSheets);
        CHECKS.sentence("sheet",
                "Throws IllegalArgumentException if length, breadth or kind is out of range",
                SheetBoundariesTest::sheetsOutOfRange);
        CHECKS.sentence("sheet", "Throws IllegalStateException if there are 4",
                SheetBoundariesTest::fifthSheet);
    }

    private static void dotAndSide() {
        CHECKS.sentence("dot", "its column, or its row", SheetBoundariesTest::columnOrRow);
        CHECKS.sentence("dot", "NONE if it is not on it", SheetBoundariesTest::notOnIt);
        CHECKS.sentence("dot", "Throws IndexOutOfBoundsException as told, of both",
                SheetBoundariesTest::noSuchDot);
        CHECKS.sentence("side", "Returns 0 RIGHT to 3 BELOW", SheetBoundariesTest::fourSides);
        CHECKS.sentence("side", "NONE if it is left out", SheetBoundariesTest::noSideLeftOut);
        CHECKS.sentence("side", "has no name", SheetBoundariesTest::noSideWithoutAName);
        CHECKS.sentence("side", "or is not on it", SheetBoundariesTest::noSideNotOnIt);
        CHECKS.sentence("side", "Throws IndexOutOfBoundsException as told, of both",
                SheetBoundariesTest::noSuchSide);
    }

    private static void drawnAndWorth() {
        CHECKS.sentence("drawn", "a star for a dot", SheetBoundariesTest::stars);
        CHECKS.sentence("drawn", "a letter of a name", SheetBoundariesTest::letters);
        CHECKS.sentence("drawn", "otherwise a point", SheetBoundariesTest::points);
        CHECKS.sentence("drawn", "Throws IndexOutOfBoundsException as told",
                SheetBoundariesTest::noSuchSign);
        CHECKS.sentence("worth", "Returns the worth of a sheet, today.",
                SheetBoundariesTest::worthToday);
        CHECKS.sentence("worth", "Throws IndexOutOfBoundsException as told",
                SheetBoundariesTest::noSuchWorth);
    }

    private static void best() {
        CHECKS.sentence("best", "the greatest worth of a sheet by all placings of its names",
                SheetBoundariesTest::bestOfNone);
        CHECKS.sentence("best", "each at any of the four where it may stand",
                SheetBoundariesTest::bestAtAnotherSide);
        CHECKS.sentence("best", "or left out", SheetBoundariesTest::bestWithoutTheGreatest);
        CHECKS.sentence("best", "today", SheetBoundariesTest::bestToday);
        CHECKS.sentence("best", "Throws IndexOutOfBoundsException as told",
                SheetBoundariesTest::noSuchBest);
        CHECKS.sentence("best", "Throws IllegalStateException if more than 4 places",
                SheetBoundariesTest::fiveNames);
        CHECKS.sentence("best", "with a name", SheetBoundariesTest::fiveWithFourNames);
        CHECKS.sentence("best", "are on it", SheetBoundariesTest::fiveWithFourOnIt);
    }

    private static void exceptions() {
        CHECKS.sentence("sheet", "If several apply, the one that is named first",
                SheetBoundariesTest::severalOfSheet);
        CHECKS.sentence("best", "If several apply, the one that is named first",
                SheetBoundariesTest::severalOfBest);
        CHECKS.sentence("sheet", "a call that throws changes nothing",
                () -> changesNothing(SheetBoundariesTest::refusedSheets));
        CHECKS.sentence("dot, side, drawn, worth", "a call that throws changes nothing",
                () -> changesNothing(SheetBoundariesTest::refusedQuestions));
        CHECKS.sentence("best", "a call that throws changes nothing",
                () -> changesNothing(SheetBoundariesTest::refusedBest));
    }

    // ---- sheets and dots

    private static void fourSheets() {
        GraticulePress press = new GraticulePress();
        CHECKS.same("the first", press.sheet(0, 0, PLATE), 0);
        press.sheet(0, 0, PLATE);
        press.sheet(0, 0, CONE);
        CHECKS.same("the fourth", press.sheet(0, 0, CONE), 3);
        CHECKS.same("its worth", press.worth(3), 0);
        CHECKS.noState("a fifth", () -> press.sheet(0, 0, PLATE));
        CHECKS.noPlace("number 4", () -> press.worth(4));
    }

    private static void lengthsOfASheet() {
        GraticulePress press = new GraticulePress();
        int[] lengths = {10, 39, 9, 40, -180, 179};
        for (int length : lengths) {
            press.place(length, 5, 1);
        }
        for (int kind = PLATE; kind <= CONE; kind++) {
            press.sheet(10, 0, kind);
            CHECKS.same("0 above", press.dot(kind, 0, true), 6);
            CHECKS.same("29 above", press.dot(kind, 1, true), 6);
            for (int place = 2; place < lengths.length; place++) {
                CHECKS.same("length " + lengths[place], press.dot(kind, place, true), NONE);
            }
        }
    }

    private static void breadthsOfASheet() {
        GraticulePress press = new GraticulePress();
        int[] breadths = {10, 29, 9, 30, -60, 60};
        for (int breadth : breadths) {
            press.place(0, breadth, 1);
        }
        for (int kind = PLATE; kind <= CONE; kind++) {
            press.sheet(0, 10, kind);
            CHECKS.same("0 above", press.dot(kind, 0, true), 0);
            CHECKS.same("19 above", press.dot(kind, 1, true), 22);
            for (int place = 2; place < breadths.length; place++) {
                CHECKS.same("breadth " + breadths[place], press.dot(kind, place, false), NONE);
            }
        }
    }

    private static void rowsOfASheet() {
        GraticulePress press = plate(new int[][] {{0, 0}, {0, 19}});
        CHECKS.same("the row 0", press.drawn(0, 0, 0), '*');
        CHECKS.same("the row 22", press.drawn(0, 22, 0), '*');
        CHECKS.same("the row 23", press.drawn(0, 23, 0), '.');
        CHECKS.noPlace("row 24", () -> press.drawn(0, 24, 0));
        CHECKS.noPlace("row -1", () -> press.drawn(0, -1, 0));
        CHECKS.same("from below: the lesser breadth", press.dot(0, 0, true), 0);
        CHECKS.same("from below: the greater breadth", press.dot(0, 1, true), 22);
    }

    private static void columnsOfASheet() {
        GraticulePress press = plate(new int[][] {{0, 0}, {29, 0}});
        CHECKS.same("the column 0", press.drawn(0, 0, 0), '*');
        CHECKS.same("the column 38", press.drawn(0, 0, 38), '*');
        CHECKS.same("the column 39", press.drawn(0, 0, 39), '.');
        CHECKS.noPlace("column 40", () -> press.drawn(0, 0, 40));
        CHECKS.noPlace("column -1", () -> press.drawn(0, 0, -1));
    }

    private static void columnsOfAPlate() {
        for (int begin : new int[] {-180, -7, 0, 150}) {
            for (int above = 0; above < 30; above++) {
                GraticulePress press = new GraticulePress();
                press.sheet(begin, 0, PLATE);
                press.place(begin + above, above % 20, 1);
                CHECKS.same(above + " above " + begin, press.dot(0, 0, false),
                        PLATE_COLUMNS[above]);
            }
        }
    }

    private static void rowsOf(int kind) {
        for (int begin : new int[] {-60, -7, 0, 41}) {
            for (int above = 0; above < 20; above++) {
                GraticulePress press = new GraticulePress();
                press.sheet(0, begin, kind);
                press.place(above, begin + above, 1);
                CHECKS.same(above + " above " + begin, press.dot(0, 0, true), ALL_ROWS[above]);
            }
        }
    }

    private static int columnOnACone(int along, int up) {
        GraticulePress press = new GraticulePress();
        press.sheet(-30, -20, CONE);
        press.place(along - 30, up - 20, 1);
        return press.dot(0, 0, false);
    }

    private static void columnsOfACone() {
        for (int along = 0; along < 30; along++) {
            for (int up = 0; up < 20; up++) {
                // Whole numbers tell the exact column; floats fall short of it at one spot alone.
                int due = along == 0 && up == 15 ? 5
                        : (3000 + (along - 15) * 4 * (50 - up)) / 150;
                CHECKS.same(along + " along, " + up + " up", columnOnACone(along, up), due);
            }
        }
    }

    private static void floatsOfACone() {
        CHECKS.same("doubles would give 6", columnOnACone(0, 15), 5);
        CHECKS.same("its other side", columnOnACone(29, 15), 33);
        CHECKS.same("a whole column", columnOnACone(0, 0), 0);
        CHECKS.same("a whole column again", columnOnACone(0, 5), 2);
        CHECKS.same("a whole column once more", columnOnACone(0, 10), 4);
    }

    private static void cutOfACone() {
        CHECKS.same("18 and two thirds", columnOnACone(14, 0), 18);
        CHECKS.same("19 and a sixth", columnOnACone(14, 19), 19);
        CHECKS.same("21 and a third", columnOnACone(16, 0), 21);
        CHECKS.same("20 itself", columnOnACone(15, 19), 20);
        CHECKS.same("38 and two thirds", columnOnACone(29, 0), 38);
    }

    private static void withinTheCone() {
        for (int along = 0; along < 30; along++) {
            for (int up = 0; up < 20; up++) {
                int column = columnOnACone(along, up);
                CHECKS.holds(along + " along, " + up + " up", column >= 0 && column < 40);
            }
        }
        CHECKS.same("the least of all", columnOnACone(0, 0), 0);
        CHECKS.same("the most of all", columnOnACone(29, 0), 38);
    }

    private static void dotsAlike() {
        GraticulePress press = plate(new int[][] {{9, 9}, {9, 9}, {99, 9}});
        CHECKS.same("one dot for two of one place", Checks.drawnRow(press, 0, 10),
                "............*...........................");
        CHECKS.same("the first of them", press.dot(0, 0, false), 12);
        CHECKS.same("the second of them", press.dot(0, 1, false), 12);
        press.sheet(85, 0, CONE);
        CHECKS.same("the dot of a cone", press.drawn(1, 10, press.dot(1, 2, false)), '*');
    }

    // ---- names beside dots

    /** The name of the first place, of 1 to 8 letters, its dot in row 6 and column 5 or 4. */
    private static void standsAt(int side, int[][] places) {
        for (int count = 1; count <= 8; count++) {
            GraticulePress press = plate(places);
            Checks.tell(press, 0, WORD.substring(0, count));
            int column = press.dot(0, 0, false);
            int first = side == RIGHT ? column + 1 : column - count / 2;
            int row = side == RIGHT ? 6 : side == ABOVE ? 7 : 5;
            CHECKS.same("side of " + count, press.side(0, 0), side);
            CHECKS.same("first of " + count, press.drawn(0, row, first), 'a');
            CHECKS.same("last of " + count, press.drawn(0, row, first + count - 1),
                    'a' + count - 1);
            CHECKS.same("behind " + count, press.drawn(0, row, first + count), '.');
        }
    }

    private static void standsLeft() {
        for (int count = 1; count <= 8; count++) {
            GraticulePress press = plate(new int[][] {{10, 5}, {11, 5}});
            Checks.tell(press, 0, WORD.substring(0, count));
            CHECKS.same("side of " + count, press.side(0, 0), LEFT);
            CHECKS.same("last of " + count, press.drawn(0, 6, 12), 'a' + count - 1);
            CHECKS.same("first of " + count, press.drawn(0, 6, 13 - count), 'a');
            CHECKS.same("ahead of " + count, press.drawn(0, 6, 12 - count), '.');
        }
    }

    private static int sideOf(int letters, int[][] places) {
        GraticulePress press = plate(places);
        Checks.tell(press, 0, WORD.substring(0, letters));
        return press.side(0, 0);
    }

    private static void rightOnTheSheet() {
        CHECKS.same("ends in column 39", sideOf(1, new int[][] {{29, 10}}), RIGHT);
        CHECKS.same("would end in column 40", sideOf(2, new int[][] {{29, 10}}), LEFT);
        CHECKS.same("seven end in column 39", sideOf(7, new int[][] {{24, 10}}), RIGHT);
        CHECKS.same("eight would end in column 40", sideOf(8, new int[][] {{24, 10}}), LEFT);
        GraticulePress press = plate(new int[][] {{29, 10}});
        Checks.tell(press, 0, "a");
        CHECKS.same("the last column", press.drawn(0, 12, 39), 'a');
        CHECKS.same("the next row begins empty", press.drawn(0, 13, 0), '.');
    }

    private static void leftOnTheSheet() {
        int[][] eight = {{6, 10}, {7, 10}};
        CHECKS.same("eight begin in column 0", sideOf(8, eight), LEFT);
        int[][] six = {{5, 10}, {6, 10}};
        CHECKS.same("six begin in column 0", sideOf(6, six), LEFT);
        CHECKS.same("seven would begin ahead of it", sideOf(7, six), ABOVE);
        int[][] one = {{1, 10}, {2, 10}};
        CHECKS.same("one begins in column 0", sideOf(1, one), LEFT);
        int[][] none = {{0, 10}, {1, 10}};
        CHECKS.same("one would begin ahead of it", sideOf(1, none), ABOVE);
    }

    private static void aboveOnTheSheet() {
        int[][] first = {{2, 10}, {3, 10}};
        CHECKS.same("five begin in column 0", sideOf(5, first), ABOVE);
        CHECKS.same("six would begin ahead of it", sideOf(6, first), NONE);
        int[][] last = {{29, 10}, {28, 10}};
        CHECKS.same("four end in column 39", sideOf(4, last), ABOVE);
        CHECKS.same("five would end in column 40", sideOf(5, last), NONE);
    }

    private static void belowOnTheSheet() {
        int[][] first = {{2, 10}, {3, 10}, {2, 11}};
        CHECKS.same("five begin in column 0", sideOf(5, first), BELOW);
        CHECKS.same("six would begin ahead of it", sideOf(6, first), NONE);
        int[][] last = {{29, 10}, {28, 10}, {29, 11}};
        CHECKS.same("four end in column 39", sideOf(4, last), BELOW);
        CHECKS.same("five would end in column 40", sideOf(5, last), NONE);
    }

    private static void aboveTheLastDots() {
        GraticulePress press = plate(new int[][] {{4, 19}, {5, 19}, {3, 19}});
        Checks.tell(press, 0, "abc");
        CHECKS.same("above row 22", press.side(0, 0), ABOVE);
        CHECKS.same("drawn in row 23", Checks.drawnRow(press, 0, 23),
                "....abc.................................");
    }

    private static void belowTheFirstDots() {
        int[][] second = {{4, 1}, {5, 1}, {3, 1}, {4, 2}};
        CHECKS.same("below row 1", sideOf(3, second), BELOW);
        int[][] first = {{4, 0}, {5, 0}, {3, 0}, {4, 1}};
        CHECKS.same("below row 0", sideOf(3, first), NONE);
        CHECKS.same("a single letter below row 0", sideOf(1, first), NONE);
    }

    // ---- names that must not meet

    private static void dotsAtTheRight() {
        int[][] behind = {{15, 10}, {18, 10}};
        CHECKS.same("ends ahead of the dot", sideOf(3, behind), RIGHT);
        CHECKS.same("its last letter would be on it", sideOf(4, behind), LEFT);
        int[][] beside = {{15, 10}, {16, 10}};
        CHECKS.same("its first letter would be on it", sideOf(1, beside), LEFT);
        CHECKS.same("one of eight would be on it", sideOf(8, behind), LEFT);
    }

    private static void dotsAtTheLeft() {
        int[][] ahead = {{15, 10}, {16, 10}, {12, 10}};
        CHECKS.same("begins behind the dot", sideOf(3, ahead), LEFT);
        CHECKS.same("its first letter would be on it", sideOf(4, ahead), ABOVE);
        CHECKS.same("one of eight would be on it", sideOf(8, ahead), ABOVE);
        int[][] beside = {{4, 10}, {5, 10}, {3, 10}};
        CHECKS.same("its last letter would be on it", sideOf(1, beside), ABOVE);
    }

    private static void dotsAbove() {
        int[][] behind = {{4, 5}, {5, 5}, {3, 5}, {5, 6}};
        CHECKS.same("ends ahead of the dot", sideOf(2, behind), ABOVE);
        CHECKS.same("its last letter would be on it", sideOf(3, behind), BELOW);
        int[][] ahead = {{4, 5}, {5, 5}, {3, 5}, {3, 6}};
        CHECKS.same("begins behind the dot", sideOf(1, ahead), ABOVE);
        CHECKS.same("its first letter would be on it", sideOf(2, ahead), BELOW);
    }

    private static void dotsBelow() {
        int[][] behind = {{4, 6}, {5, 6}, {3, 6}, {4, 7}, {5, 5}};
        CHECKS.same("ends ahead of the dot", sideOf(2, behind), BELOW);
        CHECKS.same("its last letter would be on it", sideOf(3, behind), NONE);
        int[][] ahead = {{4, 6}, {5, 6}, {3, 6}, {4, 7}, {3, 5}};
        CHECKS.same("begins behind the dot", sideOf(1, ahead), BELOW);
        CHECKS.same("its first letter would be on it", sideOf(2, ahead), NONE);
    }

    private static void dotsOfAnyPlace() {
        GraticulePress press = plate(new int[][] {{15, 10, 5}});
        Checks.tell(press, 0, "abc");
        CHECKS.same("alone", press.side(0, 0), RIGHT);
        press.place(16, 10, 1);
        CHECKS.same("beside a new dot", press.side(0, 0), LEFT);
        CHECKS.same("the dot is drawn", press.drawn(0, 12, 21), '*');
        press.place(47, 10, 1);
        CHECKS.same("a dot on no sheet is in no way", press.side(0, 0), LEFT);
    }

    /** The side of place 1, told "abc.." of so many letters, ahead of a place of rank 5. */
    private static int sideBeside(String greater, int letters, int[][] places) {
        GraticulePress press = plate(places);
        Checks.tell(press, 0, greater);
        Checks.tell(press, 1, WORD.substring(0, letters));
        return press.side(0, 1);
    }

    private static void lettersAtTheRight() {
        int[][] places = {{20, 10, 5}, {12, 10, 1}, {21, 10, 1}};
        CHECKS.same("ends ahead of the first letter", sideBeside("xyz", 6, places), RIGHT);
        CHECKS.same("its last would be on the first", sideBeside("xyz", 7, places), LEFT);
    }

    private static void lettersAtTheLeft() {
        int[][] places = {{10, 10, 5}, {15, 10, 1}, {16, 10, 1}};
        CHECKS.same("begins behind the last letter", sideBeside("xyz", 3, places), LEFT);
        CHECKS.same("its first would be on the last", sideBeside("xyz", 4, places), ABOVE);
    }

    private static void lettersAbove() {
        int[][] places = {{0, 6, 5}, {4, 5, 1}, {5, 5, 1}, {3, 5, 1}};
        CHECKS.same("begins behind the last letter", sideBeside("xyz", 2, places), ABOVE);
        CHECKS.same("its first would be on the last", sideBeside("wxyz", 2, places), BELOW);
    }

    private static void lettersBelow() {
        int[][] places = {{0, 5, 5}, {4, 6, 1}, {5, 6, 1}, {3, 6, 1}, {4, 7, 1}};
        CHECKS.same("begins behind the last letter", sideBeside("xyz", 2, places), BELOW);
        CHECKS.same("its first would be on the last", sideBeside("wxyz", 2, places), NONE);
    }

    // ---- by rank

    private static void greatestFirst() {
        for (int lower = 1; lower <= 4; lower++) {
            GraticulePress press = plate(new int[][] {{15, 10, lower}, {15, 10, lower + 1}});
            Checks.tell(press, 0, "ab");
            CHECKS.same("rank " + lower + " alone", press.side(0, 0), RIGHT);
            Checks.tell(press, 1, "cd");
            CHECKS.same("a rank above " + lower, press.side(0, 1), RIGHT);
            CHECKS.same("rank " + lower + " behind it", press.side(0, 0), LEFT);
        }
    }

    private static void lowestPlaceFirst() {
        for (int rank = 1; rank <= 5; rank++) {
            GraticulePress press = plate(new int[][] {{15, 10, rank}, {15, 10, rank}});
            Checks.tell(press, 1, "cd");
            CHECKS.same("place 1 alone, rank " + rank, press.side(0, 1), RIGHT);
            Checks.tell(press, 0, "ab");
            CHECKS.same("place 0, told later, rank " + rank, press.side(0, 0), RIGHT);
            CHECKS.same("place 1 behind it, rank " + rank, press.side(0, 1), LEFT);
        }
    }

    private static GraticulePress fiveOfOneDot() {
        GraticulePress press = plate(new int[][] {{15, 10, 3}, {15, 10, 3}, {15, 10, 3},
            {15, 10, 3}, {15, 10, 3}});
        for (int place = 0; place < 5; place++) {
            Checks.tell(press, place, "ab");
        }
        return press;
    }

    private static void firstOfTheFour() {
        GraticulePress press = fiveOfOneDot();
        for (int place = 0; place < 4; place++) {
            CHECKS.same("the first that is free, of " + place, press.side(0, place), place);
        }
    }

    private static void leftOut() {
        GraticulePress press = fiveOfOneDot();
        CHECKS.same("the fifth", press.side(0, 4), NONE);
        GraticulePress corner = plate(new int[][] {{0, 0, 5}, {1, 0, 1}, {0, 1, 1}});
        Checks.tell(corner, 0, "aaaa");
        CHECKS.same("the greatest of all", corner.side(0, 0), NONE);
        CHECKS.same("none of its letters is drawn", Checks.drawnRow(corner, 0, 0),
                "**......................................");
        CHECKS.same("nor in the next row", Checks.drawnRow(corner, 0, 1),
                "*.......................................");
        Checks.tell(corner, 1, "bbb");
        CHECKS.same("it is in no way", corner.side(0, 1), RIGHT);
    }

    private static void sumOfTheRanks() {
        CHECKS.same("four of five", fiveOfOneDot().worth(0), 12);
        GraticulePress press = new GraticulePress();
        press.sheet(0, 0, PLATE);
        CHECKS.same("without places", press.worth(0), 0);
        for (int i = 0; i < 14; i++) {
            press.place(2 * i, i, 5);
        }
        CHECKS.same("without names", press.worth(0), 0);
        for (int i = 0; i < 14; i++) {
            Checks.tell(press, i, "a");
            CHECKS.same("names " + (i + 1), press.worth(0), 5 * (i + 1));
        }
    }

    // ---- promise 7

    private static void lengthsOfSheets() {
        GraticulePress press = new GraticulePress();
        CHECKS.same("-180", press.sheet(-180, 0, PLATE), 0);
        CHECKS.same("150", press.sheet(150, 0, PLATE), 1);
        CHECKS.noArgument("-181", () -> press.sheet(-181, 0, PLATE));
        CHECKS.noArgument("151", () -> press.sheet(151, 0, PLATE));
        press.place(-180, 0, 1);
        press.place(179, 0, 1);
        CHECKS.same("the first length of all", press.dot(0, 0, false), 0);
        CHECKS.same("the last length of all", press.dot(1, 1, false), 38);
    }

    private static void breadthsOfSheets() {
        GraticulePress press = new GraticulePress();
        CHECKS.same("-60", press.sheet(0, -60, PLATE), 0);
        CHECKS.same("41", press.sheet(0, 41, PLATE), 1);
        CHECKS.noArgument("-61", () -> press.sheet(0, -61, PLATE));
        CHECKS.noArgument("42", () -> press.sheet(0, 42, PLATE));
        press.place(0, -60, 1);
        press.place(0, 60, 1);
        CHECKS.same("the first breadth of all", press.dot(0, 0, true), 0);
        CHECKS.same("the last breadth of all", press.dot(1, 1, true), 22);
    }

    private static void kindsOfSheets() {
        GraticulePress press = new GraticulePress();
        CHECKS.same("PLATE", press.sheet(0, 0, PLATE), 0);
        CHECKS.same("CONE", press.sheet(0, 0, CONE), 1);
        CHECKS.noArgument("-1", () -> press.sheet(0, 0, -1));
        CHECKS.noArgument("2", () -> press.sheet(0, 0, 2));
        press.place(0, 10, 1);
        CHECKS.same("a column of the plate", press.dot(0, 0, false), 0);
        CHECKS.same("a column of the cone", press.dot(1, 0, false), 4);
    }

    private static void laidLate() {
        GraticulePress press = new GraticulePress();
        press.place(3, 5, 2);
        Checks.tell(press, 0, "bay");
        press.pass(9);
        press.sheet(0, 0, PLATE);
        CHECKS.same("the names of the day stand", press.side(0, 0), RIGHT);
        CHECKS.same("and are drawn", Checks.drawnRow(press, 0, 6),
                "....*bay................................");
        CHECKS.same("and have their worth", press.worth(0), 2);
    }

    private static void numbersOfSheets() {
        GraticulePress press = new GraticulePress();
        for (int i = 0; i < 4; i++) {
            CHECKS.same("alike ones too", press.sheet(0, 0, PLATE), i);
        }
    }

    private static void sheetsOutOfRange() {
        GraticulePress press = new GraticulePress();
        for (int length : new int[] {-181, 151, LEAST, MOST}) {
            CHECKS.noArgument("length " + length, () -> press.sheet(length, 0, PLATE));
        }
        for (int breadth : new int[] {-61, 42, LEAST, MOST}) {
            CHECKS.noArgument("breadth " + breadth, () -> press.sheet(0, breadth, PLATE));
        }
        for (int kind : new int[] {-1, 2, LEAST, MOST}) {
            CHECKS.noArgument("kind " + kind, () -> press.sheet(0, 0, kind));
        }
        CHECKS.same("none of them was laid", press.sheet(0, 0, PLATE), 0);
    }

    private static void fifthSheet() {
        GraticulePress press = new GraticulePress();
        for (int i = 0; i < 4; i++) {
            press.sheet(i, i, CONE);
        }
        CHECKS.noState("a fifth", () -> press.sheet(0, 0, PLATE));
        CHECKS.noState("a fifth once more", () -> press.sheet(9, 9, CONE));
        CHECKS.noPlace("it is not there", () -> press.best(4));
    }

    // ---- promises 8 and 9

    private static void columnOrRow() {
        GraticulePress press = plate(new int[][] {{29, 0}, {0, 19}});
        CHECKS.same("the column of the first", press.dot(0, 0, false), 38);
        CHECKS.same("the row of the first", press.dot(0, 0, true), 0);
        CHECKS.same("the column of the second", press.dot(0, 1, false), 0);
        CHECKS.same("the row of the second", press.dot(0, 1, true), 22);
    }

    private static void notOnIt() {
        GraticulePress press = plate(new int[][] {{-1, 5}, {30, 5}, {5, -1}, {5, 20}, {30, 20}});
        for (int place = 0; place < 5; place++) {
            CHECKS.same("column of " + place, press.dot(0, place, false), NONE);
            CHECKS.same("row of " + place, press.dot(0, place, true), NONE);
        }
    }

    private static void noSuchDot() {
        GraticulePress press = fullPress();
        CHECKS.same("the last of both", press.dot(3, 13, true), NONE);
        for (int sheet : new int[] {-1, 4, LEAST, MOST}) {
            CHECKS.noPlace("sheet " + sheet, () -> press.dot(sheet, 0, true));
            CHECKS.noPlace("sheet " + sheet + " and place", () -> press.dot(sheet, 14, false));
        }
        for (int place : new int[] {-1, 14, LEAST, MOST}) {
            CHECKS.noPlace("place " + place, () -> press.dot(0, place, false));
            CHECKS.noPlace("row of place " + place, () -> press.dot(0, place, true));
        }
        GraticulePress one = plate(new int[][] {{0, 0}});
        CHECKS.noPlace("sheet 1 of one", () -> one.dot(1, 0, true));
        CHECKS.noPlace("place 1 of one", () -> one.dot(0, 1, true));
    }

    private static void fourSides() {
        GraticulePress press = fiveOfOneDot();
        CHECKS.same("RIGHT", press.side(0, 0), 0);
        CHECKS.same("LEFT", press.side(0, 1), 1);
        CHECKS.same("ABOVE", press.side(0, 2), 2);
        CHECKS.same("BELOW", press.side(0, 3), 3);
    }

    private static void noSideLeftOut() {
        CHECKS.same("the fifth of one dot", fiveOfOneDot().side(0, 4), NONE);
        int[][] corner = {{0, 0}, {1, 0}, {0, 1}};
        CHECKS.same("one letter in a corner", sideOf(1, corner), NONE);
    }

    private static void noSideWithoutAName() {
        GraticulePress press = plate(new int[][] {{15, 10}});
        CHECKS.same("told none", press.side(0, 0), NONE);
        press.letter('a');
        CHECKS.same("typed, and not told", press.side(0, 0), NONE);
        press.name(0);
        CHECKS.same("told", press.side(0, 0), RIGHT);
    }

    private static void noSideNotOnIt() {
        GraticulePress press = plate(new int[][] {{30, 10}});
        press.sheet(1, 0, PLATE);
        Checks.tell(press, 0, "a");
        CHECKS.same("on a sheet that ends ahead of it", press.side(0, 0), NONE);
        CHECKS.same("on another sheet", press.side(1, 0), RIGHT);
    }

    private static void noSuchSide() {
        GraticulePress press = fullPress();
        CHECKS.same("the last of both", press.side(3, 13), NONE);
        for (int sheet : new int[] {-1, 4, LEAST, MOST}) {
            CHECKS.noPlace("sheet " + sheet, () -> press.side(sheet, 0));
            CHECKS.noPlace("sheet " + sheet + " and place", () -> press.side(sheet, 14));
        }
        for (int place : new int[] {-1, 14, LEAST, MOST}) {
            CHECKS.noPlace("place " + place, () -> press.side(0, place));
        }
        GraticulePress one = plate(new int[][] {{0, 0}});
        CHECKS.noPlace("sheet 1 of one", () -> one.side(1, 0));
        CHECKS.noPlace("place 1 of one", () -> one.side(0, 1));
    }

    // ---- promises 10 and 11

    private static void stars() {
        GraticulePress press = plate(new int[][] {{0, 0}, {29, 19}});
        CHECKS.same("the first corner", press.drawn(0, 0, 0), '*');
        CHECKS.same("the last dot there can be", press.drawn(0, 22, 38), '*');
        Checks.tell(press, 0, "abcdefgh");
        CHECKS.same("with a name too", press.drawn(0, 0, 0), '*');
    }

    private static void letters() {
        GraticulePress press = plate(new int[][] {{0, 0}, {29, 19}});
        Checks.tell(press, 0, "abcdefgh");
        Checks.tell(press, 1, "z");
        CHECKS.same("row 0", Checks.drawnRow(press, 0, 0),
                "*abcdefgh...............................");
        CHECKS.same("row 22", Checks.drawnRow(press, 0, 22),
                "......................................*z");
        press.pass(1);
        Checks.tell(press, 0, "ij");
        CHECKS.same("today's name alone", Checks.drawnRow(press, 0, 0),
                "*ij.....................................");
    }

    private static void points() {
        for (int first = 0; first < 24; first += 12) {
            GraticulePress press = new GraticulePress();
            press.sheet(0, 0, first == 0 ? PLATE : CONE);
            for (int row = first; row < first + 12; row++) {
                CHECKS.same("row " + row, Checks.drawnRow(press, 0, row), ".".repeat(40));
            }
        }
    }

    private static void noSuchSign() {
        GraticulePress press = fullPress();
        CHECKS.same("the last of all", press.drawn(3, 23, 39), '.');
        for (int sheet : new int[] {-1, 4, LEAST, MOST}) {
            CHECKS.noPlace("sheet " + sheet, () -> press.drawn(sheet, 0, 0));
        }
        for (int row : new int[] {-1, 24, LEAST, MOST}) {
            CHECKS.noPlace("row " + row, () -> press.drawn(0, row, 0));
            CHECKS.noPlace("row " + row + ", column 39", () -> press.drawn(0, row, 39));
        }
        for (int column : new int[] {-1, 40, LEAST, MOST}) {
            CHECKS.noPlace("column " + column, () -> press.drawn(0, 0, column));
            CHECKS.noPlace("column " + column + " in row 23", () -> press.drawn(0, 23, column));
        }
        GraticulePress one = plate(new int[][] {});
        CHECKS.noPlace("sheet 1 of one", () -> one.drawn(1, 0, 0));
    }

    private static void worthToday() {
        GraticulePress press = plate(new int[][] {{24, 10, 4}, {23, 10, 1}, {24, 11, 1}});
        Checks.tell(press, 0, "abc");
        CHECKS.same("three letters stand", press.worth(0), 4);
        press.pass(1);
        CHECKS.same("a day later", press.worth(0), 4);
        Checks.tell(press, 0, "abcdefgh");
        CHECKS.same("eight stand below", press.worth(0), 4);
        press.pass(1);
        press.place(24, 9, 1);
        CHECKS.same("row 11 has no dots", press.worth(0), 4);
        press.place(28, 10, 1);
        Checks.tell(press, 1, "i");
        CHECKS.same("another name beside it", press.worth(0), 5);
    }

    private static void noSuchWorth() {
        CHECKS.noPlace("sheet 0 of none", () -> new GraticulePress().worth(0));
        GraticulePress one = plate(new int[][] {});
        CHECKS.noPlace("sheet 1 of one", () -> one.worth(1));
        GraticulePress press = fullPress();
        CHECKS.same("the last", press.worth(3), 0);
        for (int sheet : new int[] {-1, 4, LEAST, MOST}) {
            CHECKS.noPlace("sheet " + sheet, () -> press.worth(sheet));
        }
    }

    // ---- promise 12

    private static void bestOfNone() {
        GraticulePress press = new GraticulePress();
        press.sheet(0, 0, PLATE);
        CHECKS.same("without places", press.best(0), 0);
        press.place(0, 0, 5);
        CHECKS.same("without names", press.best(0), 0);
        Checks.tell(press, 0, "a");
        CHECKS.same("of one name", press.best(0), 5);
        press.place(1, 0, 1);
        CHECKS.same("above the dot alone", press.best(0), 5);
        press.place(0, 1, 1);
        CHECKS.same("of one that can stand nowhere", press.best(0), 0);
    }

    private static void bestAtAnotherSide() {
        GraticulePress right = plate(new int[][] {{6, 0, 2}, {0, 0, 1}, {0, 1, 1}, {4, 2, 1},
            {7, 0, 1}});
        Checks.tell(right, 0, "abcdefg");
        Checks.tell(right, 1, "hijklm");
        CHECKS.same("by rank the lower one is left out", right.worth(0), 2);
        CHECKS.same("the greater one can stand above", right.best(0), 3);
        CHECKS.same("it does not for the asking", right.side(0, 0), LEFT);
        GraticulePress four = plate(new int[][] {{15, 10, 1}, {15, 10, 2}, {15, 10, 3},
            {15, 10, 4}});
        for (int place = 0; place < 4; place++) {
            Checks.tell(four, place, "ab");
        }
        CHECKS.same("all four sides of a dot", four.best(0), 10);
    }

    private static void bestWithoutTheGreatest() {
        GraticulePress press = plate(new int[][] {{0, 1, 3}, {2, 0, 2}, {5, 0, 2}, {3, 0, 1},
            {1, 0, 1}, {6, 0, 1}});
        Checks.tell(press, 0, "aaaaaaaa");
        Checks.tell(press, 1, "bb");
        Checks.tell(press, 2, "cc");
        CHECKS.same("by rank the two lower ones are left out", press.worth(0), 3);
        CHECKS.same("they are worth more without the greatest", press.best(0), 4);
        Checks.tell(press, 2, "c");
        CHECKS.same("one of them beside the greatest", press.worth(0), 5);
        CHECKS.same("is worth more than both", press.best(0), 5);
    }

    private static void bestToday() {
        GraticulePress press = plate(new int[][] {{0, 1, 3}, {2, 0, 2}, {3, 0, 1}, {1, 0, 1}});
        Checks.tell(press, 0, "aaaaaaaa");
        Checks.tell(press, 1, "bb");
        CHECKS.same("but one of two", press.best(0), 3);
        press.pass(1);
        CHECKS.same("a day later too", press.best(0), 3);
        Checks.tell(press, 0, "a");
        CHECKS.same("a shorter name of today is in the other's way", press.worth(0), 3);
        CHECKS.same("but could stand above", press.best(0), 5);
    }

    private static void noSuchBest() {
        CHECKS.noPlace("sheet 0 of none", () -> new GraticulePress().best(0));
        GraticulePress one = plate(new int[][] {});
        CHECKS.noPlace("sheet 1 of one", () -> one.best(1));
        GraticulePress press = fullPress();
        CHECKS.same("the last", press.best(3), 0);
        for (int sheet : new int[] {-1, 4, LEAST, MOST}) {
            CHECKS.noPlace("sheet " + sheet, () -> press.best(sheet));
        }
    }

    private static void fiveNames() {
        GraticulePress press = fiveOfOneDot();
        CHECKS.noState("five, one of them left out", () -> press.best(0));
        GraticulePress apart = plate(new int[][] {{0, 0}, {5, 5}, {10, 10}, {15, 15}, {20, 0}});
        for (int place = 0; place < 4; place++) {
            Checks.tell(apart, place, "a");
        }
        CHECKS.same("four", apart.best(0), 4);
        Checks.tell(apart, 4, "a");
        CHECKS.noState("five", () -> apart.best(0));
        CHECKS.same("their worth is told", apart.worth(0), 5);
    }

    private static void fiveWithFourNames() {
        GraticulePress press = new GraticulePress();
        press.sheet(0, 0, PLATE);
        for (int i = 0; i < 14; i++) {
            press.place(2 * i, i, 5);
        }
        for (int i = 0; i < 4; i++) {
            Checks.tell(press, i, "a");
            Checks.tell(press, i, "b");
        }
        CHECKS.same("ten without a name", press.best(0), 20);
    }

    private static void fiveWithFourOnIt() {
        GraticulePress press = plate(new int[][] {{0, 0}, {5, 5}, {10, 10}, {29, 19}, {30, 0}});
        press.sheet(1, 0, PLATE);
        for (int place = 0; place < 5; place++) {
            Checks.tell(press, place, "a");
        }
        CHECKS.same("the fifth is on another sheet", press.best(0), 4);
        CHECKS.same("the first is not on that one", press.best(1), 4);
        press.place(1, 1, 1);
        Checks.tell(press, 5, "a");
        CHECKS.noState("five on it", () -> press.best(0));
    }

    // ---- exceptions

    private static void severalOfSheet() {
        GraticulePress press = fullPress();
        CHECKS.noArgument("length, and four there", () -> press.sheet(151, 0, PLATE));
        CHECKS.noArgument("breadth, and four there", () -> press.sheet(0, 42, PLATE));
        CHECKS.noArgument("kind, and four there", () -> press.sheet(0, 0, 2));
    }

    private static void severalOfBest() {
        GraticulePress press = fiveOfOneDot();
        CHECKS.noPlace("no such sheet, five names on all there are", () -> press.best(1));
        CHECKS.noPlace("sheet -1, five names on all there are", () -> press.best(-1));
    }

    private static void refusedSheets(GraticulePress press) {
        CHECKS.noArgument("length", () -> press.sheet(151, 0, PLATE));
        CHECKS.noArgument("breadth", () -> press.sheet(0, -61, CONE));
        CHECKS.noArgument("kind", () -> press.sheet(0, 0, 2));
        CHECKS.noState("a fifth", () -> press.sheet(1, 1, CONE));
    }

    private static void refusedQuestions(GraticulePress press) {
        CHECKS.noPlace("dot", () -> press.dot(0, 14, true));
        CHECKS.noPlace("side", () -> press.side(4, 0));
        CHECKS.noPlace("drawn", () -> press.drawn(0, 24, 0));
        CHECKS.noPlace("worth", () -> press.worth(-1));
    }

    private static void refusedBest(GraticulePress press) {
        CHECKS.noPlace("no such sheet", () -> press.best(4));
        CHECKS.noState("five names", () -> press.best(0));
    }

    private static void changesNothing(Consumer<GraticulePress> refused) {
        GraticulePress press = fiveOfOneDot();
        for (int i = 1; i < 4; i++) {
            press.sheet(i, 0, PLATE);
        }
        Checks.type(press, "cd");
        refused.accept(press);
        int[] sides = {RIGHT, LEFT, ABOVE, BELOW, NONE};
        for (int place = 0; place < 5; place++) {
            CHECKS.same("the side of " + place, press.side(0, place), sides[place]);
            CHECKS.same("the column on the last sheet", press.dot(3, place, false), 16);
        }
        CHECKS.same("the row of the dot", Checks.drawnRow(press, 0, 12),
                "..................ab*ab.................");
        CHECKS.same("the row above", Checks.drawnRow(press, 0, 13),
                "...................ab...................");
        CHECKS.same("the worth", press.worth(0), 12);
        CHECKS.noPlace("no sheet more", () -> press.worth(4));
        CHECKS.same("the names push none", press.name(4), 0);
        CHECKS.same("the word that was typed", Checks.spelling(press, 4, 0), "cd");
        CHECKS.same("the next place", press.place(0, 0, 1), 5);
    }

    /** Four sheets and fourteen places, of which the last is on no sheet. */
    private static GraticulePress fullPress() {
        GraticulePress press = new GraticulePress();
        for (int i = 0; i < 4; i++) {
            press.sheet(0, 0, i % 2);
        }
        for (int i = 0; i < 13; i++) {
            press.place(i, i, 1);
        }
        press.place(100, 0, 1);
        return press;
    }

    /** A plate at 0, 0 with places, each told by length, breadth and perhaps a rank. */
    private static GraticulePress plate(int[][] places) {
        GraticulePress press = new GraticulePress();
        press.sheet(0, 0, PLATE);
        for (int[] place : places) {
            press.place(place[0], place[1], place.length > 2 ? place[2] : 1);
        }
        return press;
    }
}
