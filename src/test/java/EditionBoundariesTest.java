import java.util.function.Consumer;

/**
 * Each sentence of "Corrections, editions", of "Exceptions" and of promises 13 and 14 that names
 * a boundary case, by a test of its own.
 */
public final class EditionBoundariesTest {
    private static final Checks CHECKS = new Checks("EditionBoundariesTest");
    private static final int LEAST = Integer.MIN_VALUE, MOST = Integer.MAX_VALUE;
    private static final int PLATE = GraticulePress.PLATE, CONE = GraticulePress.CONE;
    private static final int NONE = GraticulePress.NONE;
    private static final int RIGHT = 0, LEFT = 1, ABOVE = 2;
    private static final String BLANKS = " ".repeat(40);
    private static final String POINTS = ".".repeat(40);

    public static void main(String[] args) {
        corrections();
        editions();
        print();
        printed();
        exceptions();
        CHECKS.end();
    }

    // ---- the sentences

    private static void corrections() {
        CHECKS.sentence("Corrections", "When a name is told, all sheets are placed anew",
                EditionBoundariesTest::allSheetsAnew);
        CHECKS.sentence("Corrections", "by today", EditionBoundariesTest::byToday);
        CHECKS.sentence("Corrections", "it pushes each other name that stands elsewhere",
                EditionBoundariesTest::standsElsewhere);
        CHECKS.sentence("Corrections", "each other name", EditionBoundariesTest::itsOwnIsNone);
        CHECKS.sentence("Corrections", "on some sheet then than ahead of it",
                EditionBoundariesTest::thanJustAhead);
        CHECKS.sentence("Corrections", "is left out there", EditionBoundariesTest::isLeftOut);
        CHECKS.sentence("Corrections", "or is left out there no more",
                EditionBoundariesTest::isLeftOutNoMore);
        CHECKS.sentence("Corrections", "each counted once for each sheet",
                EditionBoundariesTest::onceForEachSheet);
    }

    private static void editions() {
        CHECKS.sentence("Editions", "An edition is printed of today",
                EditionBoundariesTest::printedOfToday);
        CHECKS.sentence("Editions", "at most 5", EditionBoundariesTest::fiveEditions);
        CHECKS.sentence("Editions", "it keeps what names there are by today",
                EditionBoundariesTest::keepsNames);
        CHECKS.sentence("Editions", "and sheets as they are", EditionBoundariesTest::keepsSheets);
    }

    private static void print() {
        CHECKS.sentence("print", "Prints an edition.", EditionBoundariesTest::printsWithoutSheets);
        CHECKS.sentence("print", "Returns its number.", EditionBoundariesTest::numbersOfEditions);
        CHECKS.sentence("print", "Throws IllegalStateException if there are 5",
                EditionBoundariesTest::sixthEdition);
    }

    private static void printed() {
        CHECKS.sentence("printed", "Returns a sign of a sheet as it was printed.",
                EditionBoundariesTest::signsOfAllKinds);
        CHECKS.sentence("printed", "a blank if the sheet was not there yet",
                EditionBoundariesTest::notThereYet);
        CHECKS.sentence("printed, edition", "there is no such place, sheet, edition, row or column",
                EditionBoundariesTest::noSuchEdition);
        CHECKS.sentence("printed, sheet", "there is no such place, sheet, edition, row or column",
                EditionBoundariesTest::noSuchSheet);
        CHECKS.sentence("printed, row", "there is no such place, sheet, edition, row or column",
                EditionBoundariesTest::noSuchRow);
        CHECKS.sentence("printed, column", "there is no such place, sheet, edition, row or column",
                EditionBoundariesTest::noSuchColumn);
    }

    private static void exceptions() {
        CHECKS.sentence("print", "a call that throws changes nothing",
                () -> changesNothing(EditionBoundariesTest::refusedPrint));
        CHECKS.sentence("printed", "a call that throws changes nothing",
                () -> changesNothing(EditionBoundariesTest::refusedSigns));
        CHECKS.sentence("name, of the sheets", "a call that throws changes nothing",
                () -> changesNothing(EditionBoundariesTest::refusedNames));
    }

    // ---- corrections

    /** On each sheet place 0 of rank 1 stands right, and place 1 of rank 5 behind it. */
    private static GraticulePress behindEachOther(int sheets) {
        GraticulePress press = new GraticulePress();
        for (int i = 0; i < sheets; i++) {
            press.sheet(0, 0, PLATE);
        }
        press.place(9, 10, 1);
        press.place(18, 10, 5);
        press.place(19, 10, 1);
        Checks.tell(press, 0, "abcdefgh");
        return press;
    }

    private static void allSheetsAnew() {
        GraticulePress press = behindEachOther(4);
        Checks.tell(press, 1, "ijkl");
        for (int sheet = 0; sheet < 4; sheet++) {
            CHECKS.same("place 0 on sheet " + sheet, press.side(sheet, 0), LEFT);
            CHECKS.same("place 1 on sheet " + sheet, press.side(sheet, 1), LEFT);
            CHECKS.same("drawn on sheet " + sheet, press.drawn(sheet, 12, 20), 'i');
        }
    }

    private static void byToday() {
        GraticulePress press = behindEachOther(1);
        press.pass(1);
        Checks.tell(press, 1, "ijkl");
        CHECKS.same("today's name", Checks.drawnRow(press, 0, 12),
                "....abcdefgh*.......ijkl**..............");
        press.pass(1);
        Checks.tell(press, 1, "i");
        CHECKS.same("not the one of yesterday", Checks.drawnRow(press, 0, 12),
                "............*abcdefgh..i**..............");
    }

    private static void standsElsewhere() {
        GraticulePress press = behindEachOther(1);
        CHECKS.same("its last letter meets none", Checks.tell(press, 1, "ijk"), 0);
        CHECKS.same("place 0 stays", press.side(0, 0), RIGHT);
        CHECKS.same("its first letter meets one", Checks.tell(press, 1, "ijkl"), 1);
        CHECKS.same("place 0 stands elsewhere", press.side(0, 0), LEFT);
        CHECKS.same("nothing moves again", Checks.tell(press, 1, "mnop"), 0);
        CHECKS.same("back where it was", Checks.tell(press, 1, "i"), 1);
    }

    private static void itsOwnIsNone() {
        GraticulePress press = behindEachOther(1);
        press.place(15, 10, 1);
        CHECKS.same("a dot in its way", press.side(0, 0), LEFT);
        CHECKS.same("its own first name stands", Checks.tell(press, 3, "x"), 0);
        CHECKS.same("its own goes right", Checks.tell(press, 0, "ab"), 0);
        CHECKS.same("it stands elsewhere", press.side(0, 0), RIGHT);
        CHECKS.same("its own goes left", Checks.tell(press, 0, "abcdefgh"), 0);
        CHECKS.same("it stands elsewhere again", press.side(0, 0), LEFT);
        leavesItselfOut();
    }

    private static void leavesItselfOut() {
        GraticulePress press = new GraticulePress();
        press.sheet(0, 0, PLATE);
        press.place(0, 0, 1);
        press.place(3, 0, 1);
        press.place(0, 1, 1);
        Checks.tell(press, 0, "a");
        CHECKS.same("its own is left out", Checks.tell(press, 0, "abcdefgh"), 0);
        CHECKS.same("left out", press.side(0, 0), NONE);
        CHECKS.same("its own is left out no more", Checks.tell(press, 0, "b"), 0);
        CHECKS.same("stands", press.side(0, 0), RIGHT);
    }

    private static void thanJustAhead() {
        GraticulePress press = behindEachOther(1);
        Checks.tell(press, 1, "ijkl");
        press.pass(1);
        CHECKS.same("as a day ahead", Checks.tell(press, 1, "ijkl"), 0);
        CHECKS.same("not as at first", press.side(0, 0), LEFT);
        press.place(11, 10, 1);
        press.place(8, 10, 1);
        CHECKS.same("a new dot has moved it", press.side(0, 0), ABOVE);
        CHECKS.same("nobody counts that", Checks.tell(press, 1, "ijkl"), 0);
        GraticulePress late = new GraticulePress();
        late.place(9, 10, 1);
        late.place(9, 10, 5);
        Checks.tell(late, 0, "ab");
        Checks.tell(late, 1, "cd");
        late.sheet(0, 0, PLATE);
        CHECKS.same("a sheet that is laid late", Checks.tell(late, 1, "ef"), 0);
    }

    /** In a corner place 0 has but its right side; place 1 of rank 5 may be in its way. */
    private static GraticulePress inACorner() {
        GraticulePress press = new GraticulePress();
        press.sheet(0, 0, PLATE);
        press.place(0, 0, 1);
        press.place(9, 0, 5);
        press.place(10, 0, 1);
        press.place(0, 1, 1);
        Checks.tell(press, 0, "abcdefgh");
        return press;
    }

    private static void isLeftOut() {
        GraticulePress press = inACorner();
        CHECKS.same("it stands", press.side(0, 0), RIGHT);
        CHECKS.same("left out now", Checks.tell(press, 1, "ijkl"), 1);
        CHECKS.same("it has no side", press.side(0, 0), NONE);
        CHECKS.same("still left out", Checks.tell(press, 1, "mnop"), 0);
    }

    private static void isLeftOutNoMore() {
        GraticulePress press = inACorner();
        Checks.tell(press, 1, "ijkl");
        CHECKS.same("it was left out", press.side(0, 0), NONE);
        CHECKS.same("left out no more", Checks.tell(press, 1, "i"), 1);
        CHECKS.same("it stands", press.side(0, 0), RIGHT);
    }

    private static void onceForEachSheet() {
        for (int sheets = 0; sheets <= 4; sheets++) {
            GraticulePress press = behindEachOther(sheets);
            CHECKS.same("one name on " + sheets + " sheets",
                    Checks.tell(press, 1, "ijkl"), sheets);
            CHECKS.same("and back on " + sheets, Checks.tell(press, 1, "i"), sheets);
        }
        GraticulePress two = behindEachOther(2);
        two.place(18, 10, 1);
        CHECKS.same("the second stands left", Checks.tell(two, 3, "mn"), 0);
        CHECKS.same("two names on two sheets", Checks.tell(two, 1, "ijkl"), 4);
        GraticulePress one = behindEachOther(1);
        one.sheet(10, 0, PLATE);
        one.sheet(100, 0, PLATE);
        CHECKS.same("on one sheet of three is it", Checks.tell(one, 1, "ijkl"), 1);
    }

    // ---- editions

    private static void printedOfToday() {
        GraticulePress press = behindEachOther(1);
        press.pass(1000);
        Checks.tell(press, 0, "old");
        press.pass(1);
        Checks.tell(press, 0, "new");
        press.print();
        CHECKS.same("today's name", Checks.printedRow(press, 0, 0, 12),
                "............*new........**..............");
    }

    private static void fiveEditions() {
        GraticulePress press = behindEachOther(1);
        for (int i = 0; i < 5; i++) {
            press.print();
        }
        CHECKS.same("the fifth is there", press.printed(4, 0, 12, 13), 'a');
        CHECKS.noState("a sixth", () -> press.print());
        CHECKS.noPlace("the sixth is not there", () -> press.printed(5, 0, 12, 13));
    }

    private static void keepsNames() {
        GraticulePress press = behindEachOther(1);
        press.print();
        Checks.tell(press, 0, "z");
        CHECKS.same("told anew on its day", press.printed(0, 0, 12, 13), 'a');
        press.pass(1);
        Checks.tell(press, 1, "ijkl");
        press.print();
        Checks.tell(press, 1, "i");
        CHECKS.same("the first", Checks.printedRow(press, 0, 0, 12),
                "............*abcdefgh...**..............");
        CHECKS.same("the second", Checks.printedRow(press, 1, 0, 12),
                "............*z......ijkl**..............");
        CHECKS.same("today", Checks.drawnRow(press, 0, 12),
                "............*z.........i**..............");
    }

    private static void keepsSheets() {
        GraticulePress press = behindEachOther(1);
        press.print();
        press.place(10, 10, 5);
        press.place(0, 19, 5);
        press.sheet(1, 0, PLATE);
        CHECKS.same("no new dot", Checks.printedRow(press, 0, 0, 12),
                "............*abcdefgh...**..............");
        CHECKS.same("no new dot elsewhere", Checks.printedRow(press, 0, 0, 22), POINTS);
        CHECKS.same("no new sheet", Checks.printedRow(press, 0, 1, 12), BLANKS);
        CHECKS.same("the dot of today", press.drawn(0, 12, 13), '*');
    }

    // ---- promises 13 and 14

    private static void printsWithoutSheets() {
        GraticulePress press = new GraticulePress();
        CHECKS.same("of a new object", press.print(), 0);
        CHECKS.noPlace("it has no sheet", () -> press.printed(0, 0, 0, 0));
        press.sheet(0, 0, PLATE);
        press.sheet(0, 0, CONE);
        CHECKS.same("of sheets without places", press.print(), 1);
        CHECKS.same("points", Checks.printedRow(press, 1, 1, 23), POINTS);
    }

    private static void numbersOfEditions() {
        GraticulePress press = new GraticulePress();
        for (int i = 0; i < 5; i++) {
            CHECKS.same("edition " + i, press.print(), i);
        }
    }

    private static void sixthEdition() {
        GraticulePress press = new GraticulePress();
        for (int i = 0; i < 5; i++) {
            press.print();
            press.pass(1);
        }
        CHECKS.noState("a sixth", () -> press.print());
        press.sheet(0, 0, PLATE);
        CHECKS.noState("a sixth of another state", () -> press.print());
    }

    private static void signsOfAllKinds() {
        GraticulePress press = behindEachOther(1);
        press.place(0, 0, 1);
        press.place(29, 19, 1);
        Checks.tell(press, 4, "q");
        press.print();
        CHECKS.same("the first corner", press.printed(0, 0, 0, 0), '*');
        CHECKS.same("a star", press.printed(0, 0, 22, 38), '*');
        CHECKS.same("a letter", press.printed(0, 0, 22, 39), 'q');
        CHECKS.same("a point", press.printed(0, 0, 23, 39), '.');
        CHECKS.same("a row", Checks.printedRow(press, 0, 0, 12),
                "............*abcdefgh...**..............");
        CHECKS.same("a row without dots", Checks.printedRow(press, 0, 0, 13), POINTS);
    }

    private static void notThereYet() {
        GraticulePress press = new GraticulePress();
        press.place(0, 0, 1);
        Checks.tell(press, 0, "a");
        press.print();
        for (int sheets = 1; sheets <= 4; sheets++) {
            press.sheet(0, 0, PLATE);
            press.print();
        }
        for (int edition = 0; edition < 5; edition++) {
            for (int sheet = 0; sheet < 4; sheet++) {
                boolean wasThere = sheet < edition;
                String which = "sheet " + sheet + " in edition " + edition;
                CHECKS.same("the dot of " + which, press.printed(edition, sheet, 0, 0),
                        wasThere ? '*' : ' ');
                CHECKS.same("the name of " + which, press.printed(edition, sheet, 0, 1),
                        wasThere ? 'a' : ' ');
                CHECKS.same("the end of " + which, press.printed(edition, sheet, 23, 39),
                        wasThere ? '.' : ' ');
            }
        }
    }

    private static void noSuchEdition() {
        GraticulePress press = behindEachOther(1);
        CHECKS.noPlace("0 of none", () -> press.printed(0, 0, 0, 0));
        press.print();
        for (int edition : new int[] {-1, 1, 4, 5, LEAST, MOST}) {
            CHECKS.noPlace("edition " + edition, () -> press.printed(edition, 0, 0, 0));
        }
        for (int i = 1; i < 5; i++) {
            press.print();
        }
        CHECKS.same("the last there can be", press.printed(4, 0, 0, 0), '.');
        CHECKS.noPlace("one beyond it", () -> press.printed(5, 0, 0, 0));
    }

    private static void noSuchSheet() {
        GraticulePress press = behindEachOther(2);
        press.print();
        CHECKS.same("the last that is there", press.printed(0, 1, 0, 0), '.');
        for (int sheet : new int[] {-1, 2, 3, 4, LEAST, MOST}) {
            CHECKS.noPlace("sheet " + sheet, () -> press.printed(0, sheet, 0, 0));
        }
        press.sheet(0, 0, PLATE);
        press.sheet(0, 0, PLATE);
        CHECKS.same("the last there can be", press.printed(0, 3, 0, 0), ' ');
        CHECKS.noPlace("one beyond it", () -> press.printed(0, 4, 0, 0));
    }

    private static void noSuchRow() {
        GraticulePress press = behindEachOther(1);
        press.print();
        press.sheet(0, 0, PLATE);
        for (int row : new int[] {-1, 24, LEAST, MOST}) {
            CHECKS.noPlace("row " + row, () -> press.printed(0, 0, row, 39));
            CHECKS.noPlace("row " + row + " of a blank", () -> press.printed(0, 1, row, 0));
        }
        CHECKS.same("the last row", press.printed(0, 0, 23, 0), '.');
        CHECKS.same("the last row of a blank", press.printed(0, 1, 23, 0), ' ');
    }

    private static void noSuchColumn() {
        GraticulePress press = behindEachOther(1);
        press.print();
        press.sheet(0, 0, PLATE);
        for (int column : new int[] {-1, 40, LEAST, MOST}) {
            CHECKS.noPlace("column " + column, () -> press.printed(0, 0, 0, column));
            CHECKS.noPlace("column " + column + " in row 23",
                    () -> press.printed(0, 0, 23, column));
            CHECKS.noPlace("column " + column + " of a blank",
                    () -> press.printed(0, 1, 0, column));
        }
        CHECKS.same("the last column", press.printed(0, 0, 0, 39), '.');
        CHECKS.same("the last column of a blank", press.printed(0, 1, 0, 39), ' ');
    }

    // ---- exceptions

    private static void refusedPrint(GraticulePress press) {
        CHECKS.noState("a sixth", () -> press.print());
        CHECKS.noState("a sixth once more", () -> press.print());
    }

    private static void refusedSigns(GraticulePress press) {
        CHECKS.noPlace("edition 5", () -> press.printed(5, 0, 0, 0));
        CHECKS.noPlace("sheet 1", () -> press.printed(0, 1, 0, 0));
        CHECKS.noPlace("row 24", () -> press.printed(0, 0, 24, 0));
        CHECKS.noPlace("column 40", () -> press.printed(0, 0, 0, 40));
    }

    private static void refusedNames(GraticulePress press) {
        CHECKS.noPlace("place 3", () -> press.name(3));
        CHECKS.noState("a seventh name", () -> press.name(2));
    }

    /** Five editions, the first of another name than the others, and a word that is typed. */
    private static void changesNothing(Consumer<GraticulePress> refused) {
        GraticulePress press = behindEachOther(1);
        press.print();
        press.pass(1);
        Checks.tell(press, 0, "z");
        for (int i = 1; i < 5; i++) {
            press.print();
        }
        for (int i = 0; i < 6; i++) {
            Checks.tell(press, 2, "q");
        }
        Checks.type(press, "ijkl");
        refused.accept(press);
        CHECKS.same("the first edition", Checks.printedRow(press, 0, 0, 12),
                "............*abcdefgh...**..............");
        CHECKS.same("the last edition", Checks.printedRow(press, 4, 0, 12),
                "............*z..........**..............");
        CHECKS.same("the sheet", Checks.drawnRow(press, 0, 12),
                "............*z..........**q.............");
        CHECKS.noPlace("no edition more", () -> press.printed(5, 0, 0, 0));
        CHECKS.same("the name pushes none", press.name(1), 0);
        CHECKS.same("the word that was typed", Checks.spelling(press, 1, 1), "ijkl");
        CHECKS.same("the day", press.pass(1), 2);
    }
}
