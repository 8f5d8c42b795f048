/** Promises 13 and 14: print, printed. */
public final class EditionsTest {
    private static final Checks CHECKS = new Checks("EditionsTest");
    private static final String BLANKS = " ".repeat(40);

    public static void main(String[] args) {
        numbers();
        editionsStay();
        sheetsOfLater();
        wrongEditions();
        CHECKS.end();
    }

    private static void numbers() {
        GraticulePress press = new GraticulePress();
        for (int i = 0; i < 5; i++) {
            CHECKS.same("edition " + i, press.print(), i);
        }
        CHECKS.noState("a sixth edition", () -> press.print());
        press.sheet(0, 0, 0);
        CHECKS.same("the last edition", press.printed(4, 0, 0, 0), ' ');
        CHECKS.noPlace("the sixth edition", () -> press.printed(5, 0, 0, 0));
    }

    private static void editionsStay() {
        GraticulePress press = new GraticulePress();
        press.sheet(0, 0, GraticulePress.PLATE);
        press.place(3, 5, 2);
        press.print();
        Checks.tell(press, 0, "bay");
        press.print();
        Checks.tell(press, 0, "cape");
        press.place(4, 5, 1);
        press.print();
        press.pass(7);
        Checks.tell(press, 0, "d");
        String[] due = {"....*...................................",
            "....*bay................................",
            "cape**.................................."};
        for (int i = 0; i < due.length; i++) {
            CHECKS.same("edition " + i, Checks.printedRow(press, i, 0, 6), due[i]);
            CHECKS.same("another row", Checks.printedRow(press, i, 0, 7), ".".repeat(40));
        }
        CHECKS.same("the sheet goes on", Checks.drawnRow(press, 0, 6),
                "...d**..................................");
    }

    private static void sheetsOfLater() {
        GraticulePress press = new GraticulePress();
        press.place(3, 5, 2);
        Checks.tell(press, 0, "bay");
        press.sheet(0, 0, GraticulePress.PLATE);
        press.print();
        press.sheet(1, 0, GraticulePress.PLATE);
        press.print();
        CHECKS.same("not there yet", Checks.printedRow(press, 0, 1, 6), BLANKS);
        CHECKS.same("there then", Checks.printedRow(press, 1, 1, 6),
                "..*bay..................................");
        CHECKS.same("the other one", Checks.printedRow(press, 1, 0, 6),
                "....*bay................................");
    }

    private static void wrongEditions() {
        GraticulePress press = new GraticulePress();
        press.sheet(0, 0, 0);
        CHECKS.noPlace("none printed", () -> press.printed(0, 0, 0, 0));
        press.print();
        press.sheet(0, 0, 0);
        CHECKS.same("the last sign", press.printed(0, 0, 23, 39), '.');
        CHECKS.same("the last blank", press.printed(0, 1, 23, 39), ' ');
        for (int number : new int[] {-1, 40, Integer.MIN_VALUE, Integer.MAX_VALUE}) {
            CHECKS.noPlace("edition " + number, () -> press.printed(number, 0, 0, 0));
            CHECKS.noPlace("sheet " + number, () -> press.printed(0, number, 0, 0));
            CHECKS.noPlace("row " + number, () -> press.printed(0, 0, number, 0));
            CHECKS.noPlace("column " + number, () -> press.printed(0, 0, 0, number));
            CHECKS.noPlace("row " + number + " of a blank", () -> press.printed(0, 1, number, 0));
        }
        CHECKS.noPlace("row 24", () -> press.printed(0, 0, 24, 0));
        CHECKS.noPlace("edition 1", () -> press.printed(1, 0, 0, 0));
        CHECKS.noPlace("sheet 2", () -> press.printed(0, 2, 0, 0));
    }
}
