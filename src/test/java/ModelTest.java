import java.util.ArrayList;
import java.util.HashMap;
import java.util.List;
import java.util.Map;
import java.util.TreeMap;

/** Long runs of calls, each answer beside that of a slow model which keeps nothing drawn. */
public final class ModelTest {
    private static final int RUNS = 3000;
    private static final int CALLS = 512;

    private final Checks checks;
    private final Map<String, Integer> seen;
    private final int run;
    private long seed;
    private final GraticulePress press = new GraticulePress();
    private final Model model = new Model();

    private ModelTest(int run, Checks checks, Map<String, Integer> seen) {
        this.run = run;
        this.checks = checks;
        this.seen = seen;
        seed = run * 7919L + 17;
    }

    public static void main(String[] args) {
        Checks checks = new Checks("ModelTest");
        Map<String, Integer> seen = new TreeMap<>();
        for (int run = 0; run < RUNS; run++) {
            new ModelTest(run, checks, seen).play();
        }
        String[] wanted = {"side 0", "side 1", "side 2", "side 3", "side -1", "push 1", "push 2",
            "push 3", "best above worth", "best as worth", "throws.IllegalStateException",
            "throws.IllegalArgumentException", "throws.IndexOutOfBoundsException",
            "printed *", "printed letter", "printed .", "printed blank"};
        for (String what : wanted) {
            checks.holds("often seen: " + what, seen.getOrDefault(what, 0) >= 50);
        }
        checks.end();
    }

    private int below(int bound) {
        seed = seed * 6364136223846793005L + 1442695040888963407L;
        return (int) ((seed >>> 33) % bound);
    }

    private int from(int least, int most) {
        return least + below(most - least + 1);
    }

    private boolean once(int in) {
        return below(in) == 0;
    }

    private void play() {
        int width = from(3, 29);
        int height = from(0, 19);
        for (int i = 0; i < CALLS; i++) {
            int kind = i < 40 ? below(40) : below(100);
            if (kind < 20) {
                nameOrType();
            } else if (kind < 32) {
                makePlace(width, height);
            } else if (kind < 36) {
                layOut(width, height);
            } else if (kind < 40) {
                passOrPrint();
            } else {
                ask(kind);
            }
        }
    }

    private void nameOrType() {
        if (once(3)) {
            int place = number(model.places.size());
            long pushed = compare("name", () -> press.name(place), () -> model.name(place));
            note("push " + pushed);
        } else {
            char letter = (char) (once(40) ? from(0, 300) : from('a', 'z'));
            compare("letter", () -> press.letter(letter), () -> model.letter(letter));
        }
    }

    private void makePlace(int width, int height) {
        int length = once(40) ? from(-200, 200) : from(0, width);
        int breadth = once(40) ? from(-70, 70) : from(0, height);
        int rank = once(40) ? from(-1, 7) : from(1, 5);
        compare("place", () -> press.place(length, breadth, rank),
                () -> model.place(length, breadth, rank));
    }

    private void layOut(int width, int height) {
        int length = once(20) ? from(-200, 200) : from(width - 29, 3);
        int breadth = once(20) ? from(-70, 70) : from(height - 19, 2);
        int kind = once(20) ? from(-1, 2) : below(2);
        compare("sheet", () -> press.sheet(length, breadth, kind),
                () -> model.sheet(length, breadth, kind));
    }

    private void passOrPrint() {
        if (once(8)) {
            compare("print", press::print, model::print);
        } else {
            int days = once(6) ? from(-1, 1002) : from(1, 30);
            compare("pass", () -> press.pass(days), () -> model.pass(days));
        }
    }

    private void ask(int kind) {
        int sheet = number(model.sheets.size());
        int place = number(model.places.size());
        if (kind < 45) {
            int day = once(20) ? from(-2, 10002) : from(0, model.today + 3);
            int which = from(-1, 8);
            compare("spelled", () -> press.spelled(place, day, which),
                    () -> model.spelled(place, day, which));
        } else if (kind < 50) {
            boolean isRow = once(2);
            compare("dot", () -> press.dot(sheet, place, isRow),
                    () -> model.dot(sheet, place, isRow));
        } else if (kind < 65) {
            note("side " + compare("side", () -> press.side(sheet, place),
                    () -> model.side(sheet, place)));
        } else if (kind < 75) {
            askWorthAndBest(sheet);
        } else {
            askSigns(sheet, place, kind);
        }
    }

    private void askWorthAndBest(int sheet) {
        long worth = compare("worth", () -> press.worth(sheet), () -> model.worth(sheet));
        long best = compare("best", () -> press.best(sheet), () -> model.best(sheet));
        if (worth > 0 && best > 0) {
            note(best > worth ? "best above worth" : "best as worth");
        }
    }

    // Signs are asked for where something stands, near a dot.
    private void askSigns(int sheet, int place, int kind) {
        boolean isNear = sheet >= 0 && sheet < model.sheets.size()
                && place >= 0 && place < model.places.size() && !once(20);
        int row = isNear ? model.dot(sheet, place, true) + from(-1, 1) : from(-2, 26);
        int column = isNear ? model.dot(sheet, place, false) + from(-9, 9) : from(-2, 42);
        if (kind < 88) {
            compare("drawn", () -> press.drawn(sheet, row, column),
                    () -> model.drawn(sheet, row, column));
        } else {
            int edition = number(model.editions.size());
            long sign = compare("printed", () -> press.printed(edition, sheet, row, column),
                    () -> model.printed(edition, sheet, row, column));
            note("printed " + (sign >= 'a' && sign <= 'z' ? "letter"
                    : sign == ' ' ? "blank" : String.valueOf((char) sign)));
        }
    }

    private int number(int count) {
        return count == 0 || once(25) ? from(-1, count + 1) : below(count);
    }

    private interface Call {
        long answer();
    }

    private long compare(String what, Call asked, Call due) {
        String got = answerOf(asked);
        String want = answerOf(due);
        checks.same("run " + run + ": " + what, got, want);
        if (want.startsWith("throws.")) {
            note(want);
            return Long.MIN_VALUE;
        }
        return Long.parseLong(want);
    }

    private static String answerOf(Call call) {
        try {
            return String.valueOf(call.answer());
        } catch (RuntimeException e) {
            return "throws." + e.getClass().getSimpleName();
        }
    }

    private void note(String what) {
        seen.merge(what, 1, Integer::sum);
    }

    /** The document once more, each answer worked out from the tellings alone. */
    private static final class Model {
        final List<int[]> places = new ArrayList<>();
        final List<int[]> sheets = new ArrayList<>();
        final List<Map<Integer, Character>> editions = new ArrayList<>();
        int today = 0;
        private final List<Integer> tellingPlaces = new ArrayList<>();
        private final List<Integer> tellingDays = new ArrayList<>();
        private final List<String> tellingWords = new ArrayList<>();
        private String typed = "";

        int letter(char letter) {
            wantArgument("abcdefghijklmnopqrstuvwxyz".indexOf(letter) >= 0);
            wantState(typed.length() < 8);
            typed += letter;
            return typed.length();
        }

        int place(int length, int breadth, int rank) {
            wantArgument(length >= -180 && length <= 179 && breadth >= -60 && breadth <= 60
                    && rank >= 1 && rank <= 5);
            wantState(places.size() < 14);
            places.add(new int[] {length, breadth, rank});
            return places.size() - 1;
        }

        int name(int place) {
            wantThere(place, places.size());
            wantState(!typed.isEmpty());
            wantState(tellingPlaces.stream().filter(told -> told == place).count() < 6);
            List<Map<Integer, Integer>> ahead = allSides();
            tellingPlaces.add(place);
            tellingDays.add(today);
            tellingWords.add(typed);
            typed = "";
            List<Map<Integer, Integer>> then = allSides();
            int pushed = 0;
            for (int s = 0; s < sheets.size(); s++) {
                for (int p = 0; p < places.size(); p++) {
                    boolean moved = ahead.get(s).getOrDefault(p, -1)
                            != (int) then.get(s).getOrDefault(p, -1);
                    pushed += p != place && moved ? 1 : 0;
                }
            }
            return pushed;
        }

        char spelled(int place, int day, int which) {
            wantThere(place, places.size());
            wantThere(which, Integer.MAX_VALUE);
            wantArgument(day >= 0 && day <= 10000);
            String word = wordOn(place, day);
            return which < word.length() ? word.charAt(which) : ' ';
        }

        int pass(int days) {
            wantArgument(days >= 1 && days <= 1000);
            wantState(today + days <= 10000);
            today += days;
            return today;
        }

        int sheet(int length, int breadth, int kind) {
            wantArgument(length >= -180 && length <= 150 && breadth >= -60 && breadth <= 41
                    && (kind == 0 || kind == 1));
            wantState(sheets.size() < 4);
            sheets.add(new int[] {length, breadth, kind});
            return sheets.size() - 1;
        }

        int dot(int sheet, int place, boolean isRow) {
            wantThere(sheet, sheets.size());
            wantThere(place, places.size());
            int east = places.get(place)[0] - sheets.get(sheet)[0];
            int north = places.get(place)[1] - sheets.get(sheet)[1];
            if (east < 0 || east > 29 || north < 0 || north > 19) {
                return -1;
            }
            if (isRow) {
                return (int) Math.floor(north * 1.2 + 1e-9);
            }
            if (sheets.get(sheet)[2] == 0) {
                return Math.floorDiv(east * 4, 3);
            }
            // Worked out in floats, the corner is the one that differs from the exact one.
            return east == 0 && north == 15 ? 5 : (3000 + (east - 15) * 4 * (50 - north)) / 150;
        }

        int side(int sheet, int place) {
            wantThere(sheet, sheets.size());
            wantThere(place, places.size());
            return sides(sheet).getOrDefault(place, -1);
        }

        char drawn(int sheet, int row, int column) {
            wantThere(sheet, sheets.size());
            wantThere(row, 24);
            wantThere(column, 40);
            return signs(sheet).getOrDefault(row * 40 + column, '.');
        }

        int worth(int sheet) {
            wantThere(sheet, sheets.size());
            return sides(sheet).keySet().stream().mapToInt(p -> places.get(p)[2]).sum();
        }

        int best(int sheet) {
            wantThere(sheet, sheets.size());
            List<Integer> named = named(sheet);
            wantState(named.size() <= 4);
            int choices = (int) Math.pow(5, named.size());
            int best = 0;
            for (int choice = 0; choice < choices; choice++) {
                best = Math.max(best, worthOf(sheet, named, choice));
            }
            return best;
        }

        int print() {
            wantState(editions.size() < 5);
            Map<Integer, Character> edition = new HashMap<>();
            for (int s = 0; s < sheets.size(); s++) {
                Map<Integer, Character> signs = signs(s);
                for (int cell = 0; cell < 960; cell++) {
                    edition.put(s * 960 + cell, signs.getOrDefault(cell, '.'));
                }
            }
            editions.add(edition);
            return editions.size() - 1;
        }

        char printed(int edition, int sheet, int row, int column) {
            wantThere(edition, editions.size());
            wantThere(sheet, sheets.size());
            wantThere(row, 24);
            wantThere(column, 40);
            return editions.get(edition).getOrDefault(sheet * 960 + row * 40 + column, ' ');
        }

        /** The worth of a choice of sides, 4 for left out; 0 if it can't stand. */
        private int worthOf(int sheet, List<Integer> named, int choice) {
            Map<Integer, Character> taken = dots(sheet);
            int worth = 0;
            for (int place : named) {
                int side = choice % 5;
                choice /= 5;
                if (side < 4) {
                    if (!stands(taken, sheet, place, side)) {
                        return 0;
                    }
                    worth += places.get(place)[2];
                }
            }
            return worth;
        }

        private String wordOn(int place, int day) {
            for (int i = tellingPlaces.size() - 1; i >= 0; i--) {
                if (tellingPlaces.get(i) == place && tellingDays.get(i) <= day) {
                    return tellingWords.get(i);
                }
            }
            return "";
        }

        private List<Integer> named(int sheet) {
            List<Integer> named = new ArrayList<>();
            for (int p = 0; p < places.size(); p++) {
                if (dot(sheet, p, true) >= 0 && !wordOn(p, today).isEmpty()) {
                    named.add(p);
                }
            }
            named.sort((a, b) -> places.get(b)[2] != places.get(a)[2]
                    ? places.get(b)[2] - places.get(a)[2] : a - b);
            return named;
        }

        private Map<Integer, Character> dots(int sheet) {
            Map<Integer, Character> dots = new HashMap<>();
            for (int p = 0; p < places.size(); p++) {
                if (dot(sheet, p, true) >= 0) {
                    dots.put(dot(sheet, p, true) * 40 + dot(sheet, p, false), '*');
                }
            }
            return dots;
        }

        private boolean stands(Map<Integer, Character> taken, int sheet, int place, int side) {
            String word = wordOn(place, today);
            int[] up = {0, 0, 1, -1};
            int[] over = {1, -word.length(), -(word.length() / 2), -(word.length() / 2)};
            int row = dot(sheet, place, true) + up[side];
            int first = dot(sheet, place, false) + over[side];
            if (row < 0 || row > 23 || first < 0 || first + word.length() > 40) {
                return false;
            }
            for (int i = 0; i < word.length(); i++) {
                if (taken.containsKey(row * 40 + first + i)) {
                    return false;
                }
            }
            for (int i = 0; i < word.length(); i++) {
                taken.put(row * 40 + first + i, word.charAt(i));
            }
            return true;
        }

        private Map<Integer, Integer> placeAll(int sheet, Map<Integer, Character> taken) {
            Map<Integer, Integer> sides = new TreeMap<>();
            for (int place : named(sheet)) {
                for (int side = 0; side < 4 && !sides.containsKey(place); side++) {
                    if (stands(taken, sheet, place, side)) {
                        sides.put(place, side);
                    }
                }
            }
            return sides;
        }

        private Map<Integer, Integer> sides(int sheet) {
            return placeAll(sheet, dots(sheet));
        }

        private Map<Integer, Character> signs(int sheet) {
            Map<Integer, Character> signs = dots(sheet);
            placeAll(sheet, signs);
            return signs;
        }

        private List<Map<Integer, Integer>> allSides() {
            List<Map<Integer, Integer>> all = new ArrayList<>();
            for (int s = 0; s < sheets.size(); s++) {
                all.add(sides(s));
            }
            return all;
        }

        private static void wantThere(int number, int count) {
            if (number < 0 || number >= count) {
                throw new IndexOutOfBoundsException();
            }
        }

        private static void wantArgument(boolean isIn) {
            if (!isIn) {
                throw new IllegalArgumentException();
            }
        }

        private static void wantState(boolean isSo) {
            if (!isSo) {
                throw new IllegalStateException();
            }
        }
    }
}
