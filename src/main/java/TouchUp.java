import java.util.Arrays;

/**
 * A painted wall that ages, and what it takes to touch it up unseen.
 * The promises are those of the document; refusals and faults are answers, nothing is ever thrown.
 */
public final class TouchUp {
    public static final int UNKNOWN = -1, OUTSIDE = -2, STATE = -3, FULL = -4, NONE = -9;
    public static final long LOST = Long.MIN_VALUE;

    private static final int NULL = 1, CAST = 2, INDEX = 3, SIZE = 4;
    private static final int PLAIN = 0, SHINY = 1, FAST = 2;
    private static final int BANDS = 3;
    private static final int MOST_SHEETS = 4, MOST_NUMBERS = 40, BYTES = 0, SHORTS = 1, INTS = 2;
    private static final int MOST_HIGH = 4, LEAST_WIDE = 2, MOST_WIDE = 6, MOST_CELLS = MOST_HIGH * MOST_WIDE;
    private static final int MOST_COATS = 6, MOST_LIGHTS = 4, MOST_VIEWS = 2 * MOST_LIGHTS;
    private static final int MIXED_COATS = 4, MOST_DROPS_OF_ONE = 9, MOST_DROPS = 12, MOST_DROPS_OF_BEST = 6;
    private static final int LAST_YEAR = 40, MOST_SUN = 9, MOST_SMOKE = 9, MOST_LINE = 999;
    private static final int MOST_BAND = 99, MOST_WEIGHT = 9;

    private final Sheet[] sheets = new Sheet[MOST_SHEETS];
    private final Wall wall = new Wall();
    private final Edges edges = new Edges(wall);
    private final Mixer mixer = new Mixer(wall);
    private final Patch patch = new Patch(wall, edges);
    private int marks;
    private int latestFault;

    public TouchUp() {
        for (int k = 0; k < MOST_SHEETS; k++) {
            sheets[k] = new Sheet();
        }
    }

    // ---- 1 the wall

    public int wall(int sheet, int sort, int i, int n) {
        latestFault = 0;
        if (!isSheet(sheet)) {
            return UNKNOWN;
        }
        if (!isSort(sort)) {
            return OUTSIDE;
        }
        Sheet text = sheets[sheet];
        int fault = text.faultAs(sort);
        if (fault == 0 && n < 0) {
            fault = SIZE;
        }
        if (fault == 0 && !text.reaches(i, n)) {
            fault = INDEX;
        }
        if (fault != 0) {
            return failed(fault);
        }
        int wrong = text.firstWrongCode(i, n);
        if (wrong >= 0) {
            return -100 - wrong;
        }
        wall.makeAnew(text, i);
        return wall.count;
    }

    public int ofCell(int c, int what) {
        if (!wall.hasCell(c)) {
            return UNKNOWN;
        }
        Cell cell = wall.cells[c];
        switch (what) {
            case 0: return cell.sun;
            case 1: return cell.coat;
            case 2: return cell.sunHad;
            case 3: return cell.air;
            case 4: return cell.hidden ? 1 : 0;
            default: return OUTSIDE;
        }
    }

    public int set(int what, int v) {
        if (!isWithin(what, 0, 1) || !isWithin(v, 0, what == 0 ? MOST_SMOKE : MOST_LINE)) {
            return OUTSIDE;
        }
        if (!wall.stands()) {
            return STATE;
        }
        int was = what == 0 ? wall.smoke : wall.line;
        if (what == 0) {
            wall.smoke = v;
        } else {
            wall.line = v;
        }
        return was;
    }

    public int years(int n) {
        if (!isWithin(n, 0, LAST_YEAR - wall.year)) {
            return OUTSIDE;
        }
        if (!wall.stands()) {
            return STATE;
        }
        wall.age(n);
        return wall.year;
    }

    public int hang(int c, boolean is) {
        if (!wall.hasCell(c)) {
            return UNKNOWN;
        }
        Cell cell = wall.cells[c];
        boolean was = cell.hidden;
        cell.hidden = is;
        return was == is ? 0 : 1;
    }

    // ---- 2 coats, lights

    public int coat(int kind, int a, int b, int c) {
        if (!isKind(kind) || !areWithin(a, b, c, MOST_BAND)) {
            return OUTSIDE;
        }
        if (!wall.stands()) {
            return STATE;
        }
        if (wall.coatCount >= MOST_COATS) {
            return FULL;
        }
        return wall.addCoat(kind, a, b, c);
    }

    public int ofCoat(int k, int what) {
        if (!wall.hasCoat(k)) {
            return UNKNOWN;
        }
        if (!isWithin(what, -1, BANDS - 1)) {
            return OUTSIDE;
        }
        Coat coat = wall.coats[k];
        return what < 0 ? coat.kind : coat.bands[what];
    }

    public int paint(int c, int coat) {
        if (!wall.hasCell(c) || !wall.hasCoat(coat)) {
            return UNKNOWN;
        }
        Cell cell = wall.cells[c];
        int was = cell.coat;
        cell.takeFresh(coat);
        return was;
    }

    public int back(int c, int band, boolean aside) {
        if (!wall.hasCell(c)) {
            return UNKNOWN;
        }
        if (!isWithin(band, 0, BANDS - 1)) {
            return OUTSIDE;
        }
        Cell cell = wall.cells[c];
        return wall.coats[cell.coat].comesBack(band, cell.sunHad, cell.air, wall.smoke, aside);
    }

    public int light(int a, int b, int c) {
        if (!areWithin(a, b, c, MOST_WEIGHT)) {
            return OUTSIDE;
        }
        if (!wall.stands()) {
            return STATE;
        }
        if (wall.lightCount >= MOST_LIGHTS) {
            return FULL;
        }
        return wall.addLight(a, b, c);
    }

    public int look(int c, int light, boolean aside) {
        if (!wall.hasCell(c) || !wall.hasLight(light)) {
            return UNKNOWN;
        }
        return wall.lookOfCell(c, light, aside);
    }

    public int unlike(int c, int other, int light, boolean aside) {
        if (!wall.hasCell(c) || !wall.hasCell(other) || !wall.hasLight(light)) {
            return UNKNOWN;
        }
        return Math.abs(wall.lookOfCell(c, light, aside) - wall.lookOfCell(other, light, aside));
    }

    public int seen(int c) {
        if (c != -1 && !wall.hasCell(c)) {
            return UNKNOWN;
        }
        edges.takeAsItIs();
        return c == -1 ? edges.countSeen() : edges.countSeenOf(c);
    }

    // ---- 3 mixes

    public int mix(int a, int b, int c, int d) {
        mixer.pour(a, b, c, d);
        if (!mixer.isMix()) {
            return OUTSIDE;
        }
        if (wall.coatCount >= MOST_COATS) {
            return FULL;
        }
        Coat mixed = mixer.stir();
        return wall.addCoat(mixed.kind, mixed.bands[0], mixed.bands[1], mixed.bands[2]);
    }

    public int best(int c, int what) {
        if (!wall.hasCell(c)) {
            return UNKNOWN;
        }
        if (!isWithin(what, -1, MIXED_COATS - 1)) {
            return OUTSIDE;
        }
        mixer.searchFor(c);
        return what < 0 ? mixer.leastUnlike : mixer.bestDrops[what];
    }

    public int traitors(int light, int other, int k) {
        if (!wall.hasLight(light) || !wall.hasLight(other) || k < -1) {
            return UNKNOWN;
        }
        int found = 0;
        for (int a = 0; a < wall.coatCount; a++) {
            for (int b = a + 1; b < wall.coatCount; b++) {
                if (wall.areTraitors(a, b, light, other)) {
                    if (found == k) {
                        return 10 * a + b;
                    }
                    found++;
                }
            }
        }
        return k == -1 ? found : NONE;
    }

    // ---- 4 how far

    public int patch(int c, int coat, int what) {
        if (!wall.hasCell(c) || !wall.hasCoat(coat)) {
            return UNKNOWN;
        }
        if (!isWithin(what, 0, 2)) {
            return OUTSIDE;
        }
        patch.searchAround(c, coat);
        if (patch.size == 0) {
            return NONE;
        }
        if (what == 0) {
            return patch.size;
        }
        return what == 1 ? patch.first : patch.last;
    }

    public int leave(int c, int coat) {
        if (!wall.hasCell(c) || !wall.hasCoat(coat)) {
            return UNKNOWN;
        }
        edges.takeAsItIs();
        int asItIs = edges.countSeen();
        edges.takeFresh(coat);
        edges.paintOne(c);
        return asItIs - edges.countSeen() + 100;
    }

    public int on(int c, int light, int n) {
        if (!wall.hasCell(c) || !wall.hasLight(light)) {
            return UNKNOWN;
        }
        if (!isWithin(n, 0, LAST_YEAR)) {
            return OUTSIDE;
        }
        Cell cell = wall.cells[c];
        int more = cell.hidden ? 0 : n;
        return wall.lookOfCoat(wall.coats[cell.coat], cell.sunHad + more * cell.sun, cell.air + more, light, false);
    }

    public int hide(int what) {
        if (!isWithin(what, 0, 1)) {
            return OUTSIDE;
        }
        if (!wall.stands()) {
            return STATE;
        }
        edges.takeAsItIs();
        int behind = 0;
        int most = 0;
        for (int c = 0; c < wall.count; c++) {
            int hidden = edges.countSeenOf(c);
            if (hidden > most) {
                behind = c;
                most = hidden;
            }
        }
        return what == 0 ? behind : most;
    }

    // ---- 5 what it was

    public int hung(int coat, int sun, int sheet, int sort, int i, int what) {
        latestFault = 0;
        if (!wall.hasCoat(coat) || !isSheet(sheet)) {
            return UNKNOWN;
        }
        if (!isWithin(sun, 0, MOST_SUN) || !isWithin(what, 0, 2) || !isSort(sort)) {
            return OUTSIDE;
        }
        int fault = sheets[sheet].faultOfCells(sort, i, BANDS);
        if (fault != 0) {
            return failed(fault);
        }
        int found = 0;
        int least = NONE;
        int greatest = NONE;
        for (int u = 0; u <= wall.year; u++) {
            if (isAsTold(coat, sun, u, sheet, i)) {
                least = found == 0 ? u : least;
                greatest = u;
                found++;
            }
        }
        if (what == 0) {
            return found;
        }
        return what == 1 ? least : greatest;
    }

    public long old(int coat, int sun, int sheet, int sort, int i) {
        latestFault = 0;
        if (!wall.hasCoat(coat) || !isSheet(sheet) || !isWithin(sun, 0, MOST_SUN) || !isSort(sort)) {
            return LOST;
        }
        int fault = sheets[sheet].faultOfCells(sort, i, BANDS);
        if (fault != 0) {
            failed(fault);
            return LOST;
        }
        long found = 0;
        for (int n = 0; n <= LAST_YEAR; n++) {
            if (isAsTold(coat, sun, n, sheet, i)) {
                found |= 1L << n;
            }
        }
        return found;
    }

    // ---- 6 sheets, parts

    public int sheet(int k, int sort, int n) {
        latestFault = 0;
        if (!isSheet(k)) {
            return UNKNOWN;
        }
        if (!isSort(sort) || n > MOST_NUMBERS) {
            return OUTSIDE;
        }
        if (n < 0) {
            return failed(SIZE);
        }
        sheets[k].begin(sort, n);
        return 1;
    }

    public int lose(int k) {
        if (!isSheet(k)) {
            return UNKNOWN;
        }
        boolean had = sheets[k].has;
        sheets[k].has = false;
        return had ? 1 : 0;
    }

    public int put(int k, int i, int v) {
        latestFault = 0;
        if (!isSheet(k)) {
            return UNKNOWN;
        }
        Sheet sheet = sheets[k];
        if (!sheet.has) {
            return failed(NULL);
        }
        if (!sheet.reaches(i, 1)) {
            return failed(INDEX);
        }
        sheet.row[i] = sheet.cut(v);
        return 1;
    }

    public long cell(int k, int i, int sort) {
        latestFault = 0;
        if (!isSheet(k) || !isSort(sort)) {
            return LOST;
        }
        int fault = sheets[k].faultOfCells(sort, i, 1);
        if (fault != 0) {
            failed(fault);
            return LOST;
        }
        return sheets[k].row[i];
    }

    public int copy(int k, int i, int other, int j, int n) {
        latestFault = 0;
        if (!isSheet(k) || !isSheet(other)) {
            return UNKNOWN;
        }
        Sheet from = sheets[k];
        Sheet to = sheets[other];
        if (!from.has || !to.has) {
            return failed(NULL);
        }
        if (from.sort != to.sort) {
            return failed(CAST);
        }
        if (!from.reaches(i, n) || !to.reaches(j, n)) {
            return failed(INDEX);
        }
        System.arraycopy(from.row, i, to.row, j, n);
        return n;
    }

    public int tell(int k) {
        if (!wall.hasCoat(k)) {
            return UNKNOWN;
        }
        Coat coat = wall.coats[k];
        switch (coat.kind) {
            case FAST: return tellFast(coat);
            case SHINY: return tellShiny(coat);
            default: return tellPlain(coat);
        }
    }

    public int name(int k) {
        if (!wall.hasCoat(k)) {
            return UNKNOWN;
        }
        if (wall.coats[k].kind == FAST) {
            mark(5);
            return 90;
        }
        mark(4);
        return k;
    }

    public int as(int k, int kind) {
        latestFault = 0;
        if (!wall.hasCoat(k)) {
            return UNKNOWN;
        }
        if (!isKind(kind)) {
            return OUTSIDE;
        }
        // Each kind is also of every kind before it.
        return wall.coats[k].kind < kind ? failed(CAST) : 1;
    }

    public int trace() {
        return marks;
    }

    public int fault() {
        return latestFault;
    }

    public int many(int what) {
        switch (what) {
            case 0: return wall.count;
            case 1: return wall.wide;
            case 2: return wall.coatCount;
            case 3: return wall.lightCount;
            case 4: return wall.year;
            case 5: return wall.smoke;
            case 6: return wall.line;
            default: return OUTSIDE;
        }
    }

    // ---- what the calls share

    private static boolean isWithin(int v, int least, int most) {
        return v >= least && v <= most;
    }

    private static boolean areWithin(int a, int b, int c, int most) {
        return isWithin(a, 0, most) && isWithin(b, 0, most) && isWithin(c, 0, most);
    }

    private static boolean isSheet(int k) {
        return isWithin(k, 0, MOST_SHEETS - 1);
    }

    private static boolean isSort(int sort) {
        return isWithin(sort, BYTES, INTS);
    }

    private static boolean isKind(int kind) {
        return isWithin(kind, PLAIN, FAST);
    }

    private int failed(int fault) {
        latestFault = fault;
        return -10 - fault;
    }

    /** Whether a COAT with that many years of air in that SUN comes back as the three cells from i on tell. */
    private boolean isAsTold(int coat, int sun, int air, int sheet, int i) {
        int[] told = sheets[sheet].row;
        for (int b = 0; b < BANDS; b++) {
            if (wall.coats[coat].comesBack(b, sun * air, air, wall.smoke, false) != told[i + b]) {
                return false;
            }
        }
        return true;
    }

    private void mark(int body) {
        marks = 31 * marks + body;
    }

    private int tellPlain(Coat coat) {
        mark(1);
        return coat.bands[0];
    }

    private int tellShiny(Coat coat) {
        mark(2);
        return tellPlain(coat) + 100;
    }

    private int tellFast(Coat coat) {
        mark(3);
        int shiny = tellShiny(coat);
        return shiny + tellPlain(coat);
    }

    /** A row of numbers of a sort, or nothing. The row is made once and used again. */
    private static final class Sheet {
        final int[] row = new int[MOST_NUMBERS];
        boolean has;
        int sort;
        int length;

        void begin(int newSort, int newLength) {
            has = true;
            sort = newSort;
            length = newLength;
            Arrays.fill(row, 0);
        }

        int cut(int v) {
            switch (sort) {
                case BYTES: return (byte) v;
                case SHORTS: return (short) v;
                default: return v;
            }
        }

        /** Whether n cells from i on are there; without any of them, i is still a place in the row or its end. */
        boolean reaches(int i, int n) {
            return i >= 0 && n >= 0 && i <= length && n <= length - i;
        }

        /** Nothing can be taken as any sort, so it is found out as NULL and never as CAST. */
        int faultAs(int wanted) {
            if (!has) {
                return NULL;
            }
            return sort == wanted ? 0 : CAST;
        }

        int faultOfCells(int wanted, int i, int n) {
            int fault = faultAs(wanted);
            if (fault == 0 && !reaches(i, n)) {
                fault = INDEX;
            }
            return fault;
        }

        /** The place of the first code with which no TEXT goes on, or n where it ends too soon; -1 for a TEXT. */
        int firstWrongCode(int i, int n) {
            if (n < 1 || row[i] != 'w') {
                return 0;
            }
            if (n < 2 || !isWithin(row[i + 1], '1', '0' + MOST_HIGH)) {
                return 1;
            }
            if (n < 3 || !isWithin(row[i + 2], '0' + LEAST_WIDE, '0' + MOST_WIDE)) {
                return 2;
            }
            return firstWrongInRows(i, n, row[i + 1] - '0', row[i + 2] - '0');
        }

        private int firstWrongInRows(int i, int n, int high, int wide) {
            int place = 3;
            for (int r = 0; r < high; r++) {
                for (int column = -1; column < wide; column++) {
                    if (place >= n || !fits(row[i + place], column)) {
                        return place;
                    }
                    place++;
                }
            }
            return place < n ? place : -1;
        }

        /** Ahead of a row's first column stands its ';'. */
        private static boolean fits(int code, int column) {
            return column < 0 ? code == ';' : isWithin(code, '0', '9');
        }
    }

    private static final class Coat {
        final int[] bands = new int[BANDS];
        int kind;

        private int lossIn(int band, int sunHad, int air, int smoke) {
            int both = sunHad * (band + 1) / 10 + air * smoke / 5;
            return kind == FAST ? both / 2 : both;
        }

        int comesBack(int band, int sunHad, int air, int smoke, boolean aside) {
            int kept = Math.max(0, bands[band] - lossIn(band, sunHad, air, smoke));
            return aside && kind >= SHINY ? kept + 5 : kept;
        }
    }

    private static final class Cell {
        int sun;
        int coat;
        int sunHad;
        int air;
        boolean hidden;

        void takeFresh(int newCoat) {
            coat = newCoat;
            sunHad = 0;
            air = 0;
        }

        void begin(int newSun) {
            sun = newSun;
            hidden = false;
            takeFresh(0);
        }

        void age(int n) {
            if (!hidden) {
                sunHad += n * sun;
                air += n;
            }
        }
    }

    /** The wall with all that hangs, shines and has been painted on it; without a wall every number is 0. */
    private static final class Wall {
        final Cell[] cells = new Cell[MOST_CELLS];
        final Coat[] coats = new Coat[MOST_COATS];
        final int[] weights = new int[MOST_LIGHTS * BANDS];
        int high;
        int wide;
        int count;
        int coatCount;
        int lightCount;
        int year;
        int smoke;
        int line;

        Wall() {
            for (int c = 0; c < MOST_CELLS; c++) {
                cells[c] = new Cell();
            }
            for (int k = 0; k < MOST_COATS; k++) {
                coats[k] = new Coat();
            }
        }

        /** The TEXT from i on has been looked through before. */
        void makeAnew(Sheet text, int i) {
            high = text.row[i + 1] - '0';
            wide = text.row[i + 2] - '0';
            count = high * wide;
            int place = i + 3;
            for (int r = 0; r < high; r++) {
                place++;
                for (int column = 0; column < wide; column++) {
                    cells[r * wide + column].begin(text.row[place] - '0');
                    place++;
                }
            }
            year = 0;
            smoke = 0;
            line = 10;
            lightCount = 0;
            coatCount = 0;
            addCoat(PLAIN, 90, 90, 90);
        }

        boolean stands() {
            return count > 0;
        }

        int columnOf(int c) {
            return wide < 1 ? 0 : c % wide;
        }

        int rowOf(int c) {
            return wide < 1 ? 0 : c / wide;
        }

        boolean hasCell(int c) {
            return c >= 0 && c < count;
        }

        boolean hasCoat(int k) {
            return k >= 0 && k < coatCount;
        }

        boolean hasLight(int l) {
            return l >= 0 && l < lightCount;
        }

        void age(int n) {
            year += n;
            for (int c = 0; c < count; c++) {
                cells[c].age(n);
            }
        }

        /** There is room for it: looked at before. */
        int addCoat(int kind, int a, int b, int c) {
            Coat coat = coats[coatCount];
            coat.kind = kind;
            coat.bands[0] = a;
            coat.bands[1] = b;
            coat.bands[2] = c;
            coatCount++;
            return coatCount - 1;
        }

        /** There is room for it: looked at before. */
        int addLight(int a, int b, int c) {
            int at = lightCount * BANDS;
            weights[at] = a;
            weights[at + 1] = b;
            weights[at + 2] = c;
            lightCount++;
            return lightCount - 1;
        }

        int lookOfCoat(Coat coat, int sunHad, int air, int light, boolean aside) {
            int sum = 0;
            for (int b = 0; b < BANDS; b++) {
                sum += coat.comesBack(b, sunHad, air, smoke, aside) * weights[light * BANDS + b];
            }
            return sum;
        }

        int lookOfCell(int c, int light, boolean aside) {
            Cell cell = cells[c];
            return lookOfCoat(coats[cell.coat], cell.sunHad, cell.air, light, aside);
        }

        /** A view is a light, v / 2, seen from aside (v is odd) or not. */
        int views() {
            return 2 * lightCount;
        }

        boolean areTraitors(int a, int b, int light, int other) {
            return apartFresh(a, b, light) < line && apartFresh(a, b, other) >= line;
        }

        private int apartFresh(int a, int b, int light) {
            return Math.abs(lookOfCoat(coats[a], 0, 0, light, false) - lookOfCoat(coats[b], 0, 0, light, false));
        }
    }

    /** Which edges are seen, on the wall as it is or with some cells thought of as painted freshly. */
    private static final class Edges {
        /** The looks of a fresh coat stand behind those of all cells. */
        private static final int FRESH = MOST_CELLS;

        private final Wall wall;
        private final int[] looks = new int[(MOST_CELLS + 1) * MOST_VIEWS];
        /** Whose looks a cell shows: its own or the fresh ones. */
        private final int[] shows = new int[MOST_CELLS];

        Edges(Wall wall) {
            this.wall = wall;
        }

        void takeAsItIs() {
            for (int c = 0; c < wall.count; c++) {
                for (int v = 0; v < wall.views(); v++) {
                    looks[c * MOST_VIEWS + v] = wall.lookOfCell(c, v / 2, v % 2 == 1);
                }
            }
            unpaint();
        }

        void takeFresh(int coat) {
            for (int v = 0; v < wall.views(); v++) {
                looks[FRESH * MOST_VIEWS + v] = wall.lookOfCoat(wall.coats[coat], 0, 0, v / 2, v % 2 == 1);
            }
        }

        void unpaint() {
            for (int c = 0; c < wall.count; c++) {
                shows[c] = c;
            }
        }

        void paintOne(int c) {
            shows[c] = FRESH;
        }

        int countSeen() {
            int found = 0;
            for (int c = 0; c < wall.count; c++) {
                found += isSeenToRight(c) ? 1 : 0;
                found += isSeenBelow(c) ? 1 : 0;
            }
            return found;
        }

        int countSeenOf(int c) {
            int found = isSeenToRight(c) ? 1 : 0;
            found += isSeenBelow(c) ? 1 : 0;
            found += wall.columnOf(c) > 0 && isSeenToRight(c - 1) ? 1 : 0;
            found += c >= wall.wide && isSeenBelow(c - wall.wide) ? 1 : 0;
            return found;
        }

        boolean isAnySeen() {
            for (int c = 0; c < wall.count; c++) {
                if (isSeenToRight(c) || isSeenBelow(c)) {
                    return true;
                }
            }
            return false;
        }

        private boolean isSeenToRight(int c) {
            return wall.columnOf(c) + 1 < wall.wide && isSeenBetween(c, c + 1);
        }

        private boolean isSeenBelow(int c) {
            return c + wall.wide < wall.count && isSeenBetween(c, c + wall.wide);
        }

        private boolean isSeenBetween(int c, int other) {
            int at = shows[c] * MOST_VIEWS;
            int otherAt = shows[other] * MOST_VIEWS;
            for (int v = 0; v < wall.views(); v++) {
                if (Math.abs(looks[at + v] - looks[otherAt + v]) >= wall.line) {
                    return true;
                }
            }
            return false;
        }
    }

    /** The smallest rectangle around a cell that leaves no edge seen once it is painted. */
    private static final class Patch {
        private final Wall wall;
        private final Edges edges;
        /** 0: there is none. */
        int size;
        int first;
        int last;

        Patch(Wall wall, Edges edges) {
            this.wall = wall;
            this.edges = edges;
        }

        void searchAround(int c, int coat) {
            size = 0;
            edges.takeAsItIs();
            edges.takeFresh(coat);
            int row = wall.rowOf(c);
            int column = wall.columnOf(c);
            // In this order the first of several rectangles of one size is the one that is due.
            for (int top = 0; top <= row; top++) {
                for (int left = 0; left <= column; left++) {
                    for (int bottom = row; bottom < wall.high; bottom++) {
                        for (int right = column; right < wall.wide; right++) {
                            keepIfBetter(top, left, bottom, right);
                        }
                    }
                }
            }
        }

        private void keepIfBetter(int top, int left, int bottom, int right) {
            int cells = (bottom - top + 1) * (right - left + 1);
            if (size != 0 && cells >= size) {
                return;
            }
            edges.unpaint();
            for (int r = top; r <= bottom; r++) {
                for (int column = left; column <= right; column++) {
                    edges.paintOne(r * wall.wide + column);
                }
            }
            if (!edges.isAnySeen()) {
                size = cells;
                first = top * wall.wide + left;
                last = bottom * wall.wide + right;
            }
        }
    }

    /** Drops of coats, mixed; and the best mix for a cell. */
    private static final class Mixer {
        private final Wall wall;
        private final int[] drops = new int[MIXED_COATS];
        private final Coat mixed = new Coat();
        /** What the cell looks like now, view by view. */
        private final int[] now = new int[MOST_VIEWS];
        final int[] bestDrops = new int[MIXED_COATS];
        int leastUnlike;
        private int fewestDrops;

        Mixer(Wall wall) {
            this.wall = wall;
        }

        void pour(int a, int b, int c, int d) {
            drops[0] = a;
            drops[1] = b;
            drops[2] = c;
            drops[3] = d;
        }

        boolean isMix() {
            int sum = 0;
            for (int k = 0; k < MIXED_COATS; k++) {
                if (!isWithin(drops[k], 0, MOST_DROPS_OF_ONE) || drops[k] > 0 && !wall.hasCoat(k)) {
                    return false;
                }
                sum += drops[k];
            }
            return isWithin(sum, 1, MOST_DROPS);
        }

        private int sumOfDrops() {
            return drops[0] + drops[1] + drops[2] + drops[3];
        }

        /** The mix of the drops, as a coat that is used again for the next one. */
        Coat stir() {
            int sum = Math.max(1, sumOfDrops());
            for (int b = 0; b < BANDS; b++) {
                int ofAll = 0;
                for (int k = 0; k < MIXED_COATS; k++) {
                    ofAll += drops[k] * wall.coats[k].bands[b];
                }
                mixed.bands[b] = ofAll / sum;
            }
            mixed.kind = wall.coats[leastInIt()].kind;
            return mixed;
        }

        private int leastInIt() {
            for (int k = 0; k < MIXED_COATS; k++) {
                if (drops[k] > 0) {
                    return k;
                }
            }
            return 0;
        }

        void searchFor(int c) {
            for (int v = 0; v < wall.views(); v++) {
                now[v] = wall.lookOfCell(c, v / 2, v % 2 == 1);
            }
            leastUnlike = Integer.MAX_VALUE;
            fewestDrops = 0;
            int most = MOST_DROPS_OF_BEST;
            // Rows come in their order, so of several with as many drops the first one stays.
            for (int i = 0; i <= most; i++) {
                for (int j = 0; i + j <= most; j++) {
                    for (int k = 0; i + j + k <= most; k++) {
                        for (int l = 0; i + j + k + l <= most; l++) {
                            pour(i, j, k, l);
                            keepIfBetter();
                        }
                    }
                }
            }
        }

        private void keepIfBetter() {
            if (!isMix()) {
                return;
            }
            stir();
            int sum = sumOfDrops();
            int apart = farthestApart();
            if (apart < leastUnlike || apart == leastUnlike && sum < fewestDrops) {
                leastUnlike = apart;
                fewestDrops = sum;
                System.arraycopy(drops, 0, bestDrops, 0, MIXED_COATS);
            }
        }

        private int farthestApart() {
            int most = 0;
            for (int v = 0; v < wall.views(); v++) {
                int fresh = wall.lookOfCoat(mixed, 0, 0, v / 2, v % 2 == 1);
                most = Math.max(most, Math.abs(fresh - now[v]));
            }
            return most;
        }
    }
}
