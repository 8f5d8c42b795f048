/**
 * Graticule Press, an atlas house: places and their spellings, sheets on which the names
 * stand beside their dots, and editions that stay as they were printed.
 */
public final class GraticulePress {
    public static final int NONE = -1;
    public static final int PLATE = 0, CONE = 1;

    private static final int MOST_LETTERS = 8;
    private static final int MOST_PLACES = 14;
    private static final int MOST_SPELLINGS = 6;
    private static final int MOST_SHEETS = 4;
    private static final int MOST_EDITIONS = 5;
    private static final int MOST_NAMES_FOR_BEST = 4;
    private static final int MOST_DAYS_AT_ONCE = 1000;
    private static final int LAST_DAY = 10000;
    private static final int GREATEST_RANK = 5;
    private static final int ROWS = 24, COLUMNS = 40;
    private static final int LENGTHS_OF_A_SHEET = 30, BREADTHS_OF_A_SHEET = 20;
    private static final int RIGHT = 0, LEFT = 1, ABOVE = 2, BELOW = 3;
    private static final int SIDES = 4;
    private static final char STAR = '*', POINT = '.', BLANK = ' ';

    private final StringBuilder typed;
    private final Place[] places;
    private final Sheet[] sheets;
    private final Edition[] editions;
    private int placeCount;
    private int sheetCount;
    private int editionCount;
    private int today;

    public GraticulePress() {
        typed = new StringBuilder();
        places = new Place[MOST_PLACES];
        sheets = new Sheet[MOST_SHEETS];
        editions = new Edition[MOST_EDITIONS];
        placeCount = 0;
        sheetCount = 0;
        editionCount = 0;
        today = 0;
    }

    // ---- places, names

    public int letter(char letter) throws IllegalArgumentException, IllegalStateException {
        if (letter < 'a' || letter > 'z') {
            throw new IllegalArgumentException("the letter is none of a to z");
        }
        if (typed.length() >= MOST_LETTERS) {
            throw new IllegalStateException("the word has 8 letters");
        }
        typed.append(letter);
        return typed.length();
    }

    public int place(int length, int breadth, int rank)
            throws IllegalArgumentException, IllegalStateException {
        if (!isWithin(length, -180, 179) || !isWithin(breadth, -60, 60)
                || !isWithin(rank, 1, GREATEST_RANK)) {
            throw new IllegalArgumentException("length, breadth or rank is out of range");
        }
        if (placeCount >= places.length) {
            throw new IllegalStateException("there are 14 places");
        }
        Place made = new Place(length, breadth, rank);
        places[placeCount] = made;
        placeCount++;
        showOnAllSheets(made);
        return placeCount - 1;
    }

    public int name(int place) throws IndexOutOfBoundsException, IllegalStateException {
        Place told = placeNumbered(place);
        if (typed.length() == 0) {
            throw new IllegalStateException("nothing is typed");
        }
        if (told.isToldOut()) {
            throw new IllegalStateException("the place was told 6 names");
        }
        told.tell(new Spelling(today, typed.toString()));
        typed.setLength(0);
        return placeAllSheetsAnew(place);
    }

    public char spelled(int place, int day, int which)
            throws IndexOutOfBoundsException, IllegalArgumentException {
        Place asked = placeNumbered(place);
        if (which < 0) {
            throw new IndexOutOfBoundsException("there is no such letter");
        }
        if (!isWithin(day, 0, LAST_DAY)) {
            throw new IllegalArgumentException("the day is out of range");
        }
        String word = asked.wordOn(day);
        return word == null || which >= word.length() ? BLANK : word.charAt(which);
    }

    public int pass(int days) throws IllegalArgumentException, IllegalStateException {
        if (!isWithin(days, 1, MOST_DAYS_AT_ONCE)) {
            throw new IllegalArgumentException("days is out of range");
        }
        if (today + days > LAST_DAY) {
            throw new IllegalStateException("the day would be above 10000");
        }
        today += days;
        return today;
    }

    // ---- sheets

    public int sheet(int length, int breadth, int kind)
            throws IllegalArgumentException, IllegalStateException {
        if (!isWithin(length, -180, 150) || !isWithin(breadth, -60, 41)
                || (kind != PLATE && kind != CONE)) {
            throw new IllegalArgumentException("length, breadth or kind is out of range");
        }
        if (sheetCount >= sheets.length) {
            throw new IllegalStateException("there are 4 sheets");
        }
        Sheet laid = new Sheet(length, breadth, kind);
        for (int i = 0; i < placeCount && i < places.length; i++) {
            laid.show(places[i]);
        }
        laid.placeAnew(today);
        sheets[sheetCount] = laid;
        sheetCount++;
        return sheetCount - 1;
    }

    public int dot(int sheet, int place, boolean isRow) throws IndexOutOfBoundsException {
        Spot spot = spotOn(sheet, place);
        return isRow ? spot.row : spot.column;
    }

    public int side(int sheet, int place) throws IndexOutOfBoundsException {
        return spotOn(sheet, place).side;
    }

    public char drawn(int sheet, int row, int column) throws IndexOutOfBoundsException {
        Sheet asked = sheetNumbered(sheet);
        if (!isOnGrid(row, column)) {
            throw new IndexOutOfBoundsException("there is no such row or column");
        }
        return asked.picture.signAt(row, column);
    }

    public int worth(int sheet) throws IndexOutOfBoundsException {
        return sheetNumbered(sheet).worthToday();
    }

    public int best(int sheet) throws IndexOutOfBoundsException, IllegalStateException {
        Sheet asked = sheetNumbered(sheet);
        if (asked.namedCount > MOST_NAMES_FOR_BEST) {
            throw new IllegalStateException("more than 4 places with a name are on the sheet");
        }
        return asked.greatestWorth();
    }

    // ---- editions

    public int print() throws IllegalStateException {
        if (editionCount >= editions.length) {
            throw new IllegalStateException("there are 5 editions");
        }
        Edition edition = new Edition();
        for (int i = 0; i < sheetCount && i < sheets.length; i++) {
            Sheet sheet = sheets[i];
            if (sheet != null) {
                edition.keep(i, sheet.picture);
            }
        }
        editions[editionCount] = edition;
        editionCount++;
        return editionCount - 1;
    }

    public char printed(int edition, int sheet, int row, int column)
            throws IndexOutOfBoundsException {
        Edition asked = editionNumbered(edition);
        if (!isWithin(sheet, 0, sheetCount - 1) || !isOnGrid(row, column)) {
            throw new IndexOutOfBoundsException("there is no such sheet, row or column");
        }
        return asked.signAt(sheet, row, column);
    }

    // ---- what the calls share

    private static boolean isWithin(int value, int least, int most) {
        return value >= least && value <= most;
    }

    private static boolean isOnGrid(int row, int column) {
        return row >= 0 && row < ROWS && column >= 0 && column < COLUMNS;
    }

    private Place placeNumbered(int number) {
        if (number < 0 || number >= placeCount || number >= places.length
                || places[number] == null) {
            throw new IndexOutOfBoundsException("there is no such place");
        }
        return places[number];
    }

    private Sheet sheetNumbered(int number) {
        if (number < 0 || number >= sheetCount || number >= sheets.length
                || sheets[number] == null) {
            throw new IndexOutOfBoundsException("there is no such sheet");
        }
        return sheets[number];
    }

    private Edition editionNumbered(int number) {
        if (number < 0 || number >= editionCount || number >= editions.length
                || editions[number] == null) {
            throw new IndexOutOfBoundsException("there is no such edition");
        }
        return editions[number];
    }

    private Spot spotOn(int sheet, int place) {
        Spot spot = sheetNumbered(sheet).spotOf(place);
        if (spot == null) {
            throw new IndexOutOfBoundsException("there is no such place");
        }
        return spot;
    }

    // Names give way to a new dot at once, so that a name told later does not push them for it.
    private void showOnAllSheets(Place made) {
        for (int i = 0; i < sheetCount && i < sheets.length; i++) {
            Sheet sheet = sheets[i];
            if (sheet != null) {
                sheet.show(made);
                sheet.placeAnew(today);
            }
        }
    }

    private int placeAllSheetsAnew(int told) {
        int pushed = 0;
        for (int i = 0; i < sheetCount && i < sheets.length; i++) {
            Sheet sheet = sheets[i];
            if (sheet != null) {
                sheet.placeAnew(today);
                pushed += sheet.pushedBeside(told);
            }
        }
        return pushed;
    }

    /** A name, from a day on. */
    private static final class Spelling {
        final int day;
        final String word;

        Spelling(int day, String word) {
            this.day = day;
            this.word = word;
        }
    }

    /** A place, with all the names that it was told. */
    private static final class Place {
        final int length;
        final int breadth;
        final int rank;
        private final Spelling[] spellings;
        private int toldCount;

        Place(int length, int breadth, int rank) {
            this.length = length;
            this.breadth = breadth;
            this.rank = rank;
            spellings = new Spelling[MOST_SPELLINGS];
            toldCount = 0;
        }

        boolean isToldOut() {
            return toldCount >= spellings.length;
        }

        void tell(Spelling spelling) {
            if (toldCount < spellings.length) {
                spellings[toldCount] = spelling;
                toldCount++;
            }
        }

        /** The word that is its name on a day; null without a name. */
        String wordOn(int day) {
            String word = null;
            for (int i = 0; i < toldCount && i < spellings.length; i++) {
                Spelling spelling = spellings[i];
                if (spelling != null && spelling.day <= day) {
                    word = spelling.word;
                }
            }
            return word;
        }
    }

    /** The signs of a sheet, by rows from below. */
    private static final class Grid {
        private final char[] signs;

        Grid() {
            signs = new char[ROWS * COLUMNS];
        }

        void clear() {
            for (int i = 0; i < signs.length; i++) {
                signs[i] = POINT;
            }
        }

        void copyFrom(Grid other) {
            for (int i = 0; i < signs.length && i < other.signs.length; i++) {
                signs[i] = other.signs[i];
            }
        }

        char signAt(int row, int column) {
            return isOnGrid(row, column) ? signs[row * COLUMNS + column] : BLANK;
        }

        void setSign(int row, int column, char sign) {
            if (isOnGrid(row, column)) {
                signs[row * COLUMNS + column] = sign;
            }
        }

        void write(int row, int first, String word) {
            for (int i = 0; i < word.length(); i++) {
                setSign(row, first + i, word.charAt(i));
            }
        }

        void erase(int row, int first, int count) {
            for (int i = 0; i < count; i++) {
                setSign(row, first + i, POINT);
            }
        }

        boolean isFree(int row, int first, int count) {
            for (int i = 0; i < count; i++) {
                if (signAt(row, first + i) != POINT) {
                    return false;
                }
            }
            return true;
        }
    }

    /** A place as it is on one sheet: its dot, and its name of today. */
    private static final class Spot {
        final int rank;
        final int column;
        final int row;
        private final Place place;
        private String word;
        private int side;
        private int sideAhead;

        Spot(Place place, int column, int row) {
            this.place = place;
            this.rank = place.rank;
            this.column = column;
            this.row = row;
            word = null;
            side = NONE;
            sideAhead = NONE;
        }

        void takeUp(int day) {
            word = place.wordOn(day);
            sideAhead = side;
            side = NONE;
        }

        boolean isOnSheet() {
            return column != NONE;
        }

        boolean isNamed() {
            return isOnSheet() && word != null;
        }

        boolean isPushed() {
            return side != sideAhead;
        }

        private int rowAt(int where) {
            if (where == ABOVE) {
                return row + 1;
            }
            return where == BELOW ? row - 1 : row;
        }

        private int firstColumnAt(int where, int letters) {
            if (where == RIGHT) {
                return column + 1;
            }
            return where == LEFT ? column - letters : column - letters / 2;
        }

        boolean mayStand(Grid grid, int where) {
            if (word == null) {
                return false;
            }
            int letters = word.length();
            return grid.isFree(rowAt(where), firstColumnAt(where, letters), letters);
        }

        void write(Grid grid, int where) {
            if (word != null) {
                grid.write(rowAt(where), firstColumnAt(where, word.length()), word);
            }
        }

        void erase(Grid grid, int where) {
            if (word != null) {
                int letters = word.length();
                grid.erase(rowAt(where), firstColumnAt(where, letters), letters);
            }
        }

        void standAtFirstFree(Grid grid) {
            for (int where = 0; where < SIDES && side == NONE; where++) {
                if (mayStand(grid, where)) {
                    write(grid, where);
                    side = where;
                }
            }
        }
    }

    /** A sheet: its spots, numbered as the places are, and how it is drawn today. */
    private static final class Sheet {
        final Grid picture;
        private final Grid trial;
        private final int length;
        private final int breadth;
        private final int kind;
        private final Spot[] spots;
        private int spotCount;
        /** The spots with a name today, in the order in which they are placed. */
        private final Spot[] named;
        private int namedCount;

        Sheet(int length, int breadth, int kind) {
            this.length = length;
            this.breadth = breadth;
            this.kind = kind;
            picture = new Grid();
            trial = new Grid();
            spots = new Spot[MOST_PLACES];
            named = new Spot[MOST_PLACES];
            spotCount = 0;
            namedCount = 0;
        }

        void show(Place place) {
            if (place == null || spotCount >= spots.length) {
                return;
            }
            spots[spotCount] = has(place)
                    ? new Spot(place, columnOf(place), rowOf(place))
                    : new Spot(place, NONE, NONE);
            spotCount++;
        }

        private boolean has(Place place) {
            return isWithin(place.length - length, 0, LENGTHS_OF_A_SHEET - 1)
                    && isWithin(place.breadth - breadth, 0, BREADTHS_OF_A_SHEET - 1);
        }

        private int rowOf(Place place) {
            return ROWS * (place.breadth - breadth) / BREADTHS_OF_A_SHEET;
        }

        private int columnOf(Place place) {
            int along = place.length - length;
            if (kind == PLATE) {
                return COLUMNS * along / LENGTHS_OF_A_SHEET;
            }
            // The document wants every step of the cone as a float, from left to right.
            float u = 1f - 0.02f * (float) (place.breadth - breadth);
            float v = ((float) along - 15f) * 4f / 3f * u;
            return (int) (20f + v);
        }

        Spot spotOf(int place) {
            return place < 0 || place >= spotCount || place >= spots.length ? null : spots[place];
        }

        void placeAnew(int today) {
            for (int i = 0; i < spotCount && i < spots.length; i++) {
                Spot spot = spots[i];
                if (spot != null) {
                    spot.takeUp(today);
                }
            }
            listNamed();
            drawDots(picture);
            for (int i = 0; i < namedCount && i < named.length; i++) {
                Spot spot = named[i];
                if (spot != null) {
                    spot.standAtFirstFree(picture);
                }
            }
        }

        private void listNamed() {
            namedCount = 0;
            for (int rank = GREATEST_RANK; rank >= 1; rank--) {
                for (int i = 0; i < spotCount && i < spots.length; i++) {
                    Spot spot = spots[i];
                    if (spot != null && spot.rank == rank && spot.isNamed()
                            && namedCount < named.length) {
                        named[namedCount] = spot;
                        namedCount++;
                    }
                }
            }
        }

        private void drawDots(Grid grid) {
            grid.clear();
            for (int i = 0; i < spotCount && i < spots.length; i++) {
                Spot spot = spots[i];
                if (spot != null && spot.isOnSheet()) {
                    grid.setSign(spot.row, spot.column, STAR);
                }
            }
        }

        int pushedBeside(int told) {
            int pushed = 0;
            for (int i = 0; i < spotCount && i < spots.length; i++) {
                Spot spot = spots[i];
                if (i != told && spot != null && spot.isPushed()) {
                    pushed++;
                }
            }
            return pushed;
        }

        int worthToday() {
            int sum = 0;
            for (int i = 0; i < namedCount && i < named.length; i++) {
                Spot spot = named[i];
                if (spot != null && spot.side != NONE) {
                    sum += spot.rank;
                }
            }
            return sum;
        }

        int greatestWorth() {
            drawDots(trial);
            return greatestFrom(named, namedCount, 0, trial);
        }

        // The names ahead of next stand on the grid already, or are left out.
        private static int greatestFrom(Spot[] named, int count, int next, Grid grid) {
            if (next < 0 || next >= count || next >= named.length
                    || next >= MOST_NAMES_FOR_BEST || named[next] == null) {
                return 0;
            }
            Spot spot = named[next];
            int most = ranksFrom(named, count, next);
            int greatest = 0;
            for (int where = 0; where < SIDES && greatest < most; where++) {
                if (spot.mayStand(grid, where)) {
                    spot.write(grid, where);
                    int worth = spot.rank + greatestFrom(named, count, next + 1, grid);
                    greatest = Math.max(greatest, worth);
                    spot.erase(grid, where);
                }
            }
            if (greatest < most) {
                greatest = Math.max(greatest, greatestFrom(named, count, next + 1, grid));
            }
            return greatest;
        }

        private static int ranksFrom(Spot[] named, int count, int next) {
            int sum = 0;
            for (int i = Math.max(next, 0); i < count && i < named.length; i++) {
                Spot spot = named[i];
                if (spot != null) {
                    sum += spot.rank;
                }
            }
            return sum;
        }
    }

    /** An edition: copies of the sheets that were there when it was printed. */
    private static final class Edition {
        private final Grid[] pictures;

        Edition() {
            pictures = new Grid[MOST_SHEETS];
        }

        void keep(int sheet, Grid picture) {
            if (sheet >= 0 && sheet < pictures.length) {
                Grid copy = new Grid();
                copy.copyFrom(picture);
                pictures[sheet] = copy;
            }
        }

        char signAt(int sheet, int row, int column) {
            if (sheet < 0 || sheet >= pictures.length || pictures[sheet] == null) {
                return BLANK;
            }
            return pictures[sheet].signAt(row, column);
        }
    }
}
