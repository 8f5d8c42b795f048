/** Counts the answers of a test that are not the due ones. */
final class Checks {
    private final String test;
    private String sentence = "";
    private int sentences;
    private int made;
    private int wrong;

    Checks(String test) {
        this.test = test;
    }

    /** Runs the test of one sentence; what it finds wrong is told with the sentence's words. */
    void sentence(String where, String words, Runnable check) {
        sentence = where + ", \"" + words + "\": ";
        sentences++;
        int madeAhead = made;
        try {
            check.run();
            holds("that something is checked", made > madeAhead);
        } catch (RuntimeException e) {
            made++;
            tellWrong("threw " + e);
        }
        sentence = "";
    }

    void same(String what, long got, long due) {
        made++;
        if (got != due) {
            tellWrong(what + " answered " + got + ", due is " + due);
        }
    }

    void same(String what, String got, String due) {
        made++;
        if (!got.equals(due)) {
            tellWrong(what + " answered " + got + ", due is " + due);
        }
    }

    void holds(String what, boolean holding) {
        made++;
        if (!holding) {
            tellWrong(what + " does not hold");
        }
    }

    void noPlace(String what, Runnable call) {
        refused(what, call, IndexOutOfBoundsException.class);
    }

    void noArgument(String what, Runnable call) {
        refused(what, call, IllegalArgumentException.class);
    }

    void noState(String what, Runnable call) {
        refused(what, call, IllegalStateException.class);
    }

    private void refused(String what, Runnable call, Class<? extends RuntimeException> due) {
        made++;
        String got = "nothing";
        try {
            call.run();
        } catch (RuntimeException e) {
            got = e.getClass().getSimpleName();
        }
        if (!got.equals(due.getSimpleName())) {
            tellWrong(what + " threw " + got + ", due is " + due.getSimpleName());
        }
    }

    private void tellWrong(String what) {
        wrong++;
        System.out.println(test + ": " + sentence + what);
    }

    void end() {
        if (sentences > 0) {
            System.out.println(test + ": " + sentences + " sentences, each by its own test");
        }
        System.out.println(test + ": " + (made - wrong) + " of " + made + " answers are as due");
        if (wrong != 0 || made == 0) {
            System.exit(1);
        }
    }

    static void type(GraticulePress press, String word) {
        for (char letter : word.toCharArray()) {
            press.letter(letter);
        }
    }

    static int tell(GraticulePress press, int place, String word) {
        type(press, word);
        return press.name(place);
    }

    static String spelling(GraticulePress press, int place, int day) {
        StringBuilder word = new StringBuilder();
        for (int i = 0; i < 9; i++) {
            word.append(press.spelled(place, day, i));
        }
        return word.toString().trim();
    }

    static String drawnRow(GraticulePress press, int sheet, int row) {
        StringBuilder signs = new StringBuilder();
        for (int column = 0; column < 40; column++) {
            signs.append(press.drawn(sheet, row, column));
        }
        return signs.toString();
    }

    static String printedRow(GraticulePress press, int edition, int sheet, int row) {
        StringBuilder signs = new StringBuilder();
        for (int column = 0; column < 40; column++) {
            signs.append(press.printed(edition, sheet, row, column));
        }
        return signs.toString();
    }
}
