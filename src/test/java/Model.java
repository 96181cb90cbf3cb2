import java.util.ArrayList;
import java.util.Comparator;
import java.util.List;

/**
 * The document once more, written another way: real arrays, casts and exceptions of the machine for the faults,
 * real classes for the kinds, every search by making all candidates and sorting them. Slow, and only for tests.
 */
final class Model {
    private static final int UNKNOWN = -1, OUTSIDE = -2, STATE = -3, FULL = -4, NONE = -9;
    private static final long LOST = Long.MIN_VALUE;

    private interface Named {
        int number();

        void leave(int body);

        default int named() {
            leave(4);
            return number();
        }
    }

    private class Plain implements Named {
        final int number;
        final int[] bands;

        Plain(int number, int[] bands) {
            this.number = number;
            this.bands = bands;
        }

        public int number() {
            return number;
        }

        public void leave(int body) {
            trace = trace * 31 + body;
        }

        int telling() {
            leave(1);
            return bands[0];
        }

        final int plainTelling() {
            leave(1);
            return bands[0];
        }

        int kind() {
            return 0;
        }

        int loss(int sun, int smoke) {
            return sun + smoke;
        }

        int gleam() {
            return 0;
        }
    }

    private class Shiny extends Plain {
        Shiny(int number, int[] bands) {
            super(number, bands);
        }

        @Override
        int telling() {
            leave(2);
            return super.telling() + 100;
        }

        @Override
        int kind() {
            return 1;
        }

        @Override
        int gleam() {
            return 5;
        }
    }

    private class Fast extends Shiny {
        Fast(int number, int[] bands) {
            super(number, bands);
        }

        @Override
        int telling() {
            leave(3);
            return super.telling() + plainTelling();
        }

        @Override
        public int named() {
            leave(5);
            return 90;
        }

        @Override
        int kind() {
            return 2;
        }

        @Override
        int loss(int sun, int smoke) {
            return (sun + smoke) / 2;
        }
    }

    private static final class Spot {
        int row, column, sun, had, air;
        boolean picture;
        Plain coat;

        Spot again() {
            Spot s = new Spot();
            s.row = row;
            s.column = column;
            s.sun = sun;
            s.had = had;
            s.air = air;
            s.picture = picture;
            s.coat = coat;
            return s;
        }

        void fresh(Plain with) {
            coat = with;
            had = 0;
            air = 0;
        }

        void year() {
            if (!picture) {
                had += sun;
                air++;
            }
        }
    }

    private final Object[] sheets = new Object[4];
    private List<Spot> spots = new ArrayList<>();
    private List<Plain> coats = new ArrayList<>();
    private List<int[]> lights = new ArrayList<>();
    private int wide, year, smoke, line, trace, fault;

    // ---- faults

    private interface Doing {
        long answer();
    }

    private static int number(RuntimeException e) {
        if (e instanceof NullPointerException) {
            return 1;
        }
        if (e instanceof ClassCastException || e instanceof ArrayStoreException) {
            return 2;
        }
        if (e instanceof IndexOutOfBoundsException) {
            return 3;
        }
        if (e instanceof NegativeArraySizeException) {
            return 4;
        }
        throw e;
    }

    private long faulting(boolean asLong, Doing doing) {
        fault = 0;
        try {
            return doing.answer();
        } catch (RuntimeException e) {
            fault = number(e);
            return asLong ? LOST : -10 - fault;
        }
    }

    private static Object row(int sort, int n) {
        switch (sort) {
            case 0: return new byte[n];
            case 1: return new short[n];
            default: return new int[n];
        }
    }

    private static int length(Object row, int sort) {
        switch (sort) {
            case 0: return ((byte[]) row).length;
            case 1: return ((short[]) row).length;
            default: return ((int[]) row).length;
        }
    }

    private static int get(Object row, int sort, int i) {
        switch (sort) {
            case 0: return ((byte[]) row)[i];
            case 1: return ((short[]) row)[i];
            default: return ((int[]) row)[i];
        }
    }

    /** n cells from i on, with the faults that the machine has on the way: CAST, NULL, SIZE, INDEX. */
    private int[] cells(int sheet, int sort, int i, int n) {
        Object from = sheets[sheet];
        length(from, sort);
        // No row is that long: a longer one ends in INDEX either way, without the room for it.
        Object to = row(sort, Math.min(n, 41));
        System.arraycopy(from, i, to, 0, n);
        int[] all = new int[n];
        for (int p = 0; p < n; p++) {
            all[p] = get(to, sort, p);
        }
        return all;
    }

    private static boolean in(long v, long least, long most) {
        return least <= v && v <= most;
    }

    private boolean isCell(int c) {
        return in(c, 0, spots.size() - 1);
    }

    private boolean isCoat(int k) {
        return in(k, 0, coats.size() - 1);
    }

    private boolean isLight(int l) {
        return in(l, 0, lights.size() - 1);
    }

    private boolean noWall() {
        return spots.isEmpty();
    }

    // ---- 1

    /** How many codes fit ahead of the first that does not, by trying every shape of a wall. */
    private static int fitting(int[] codes, String shape) {
        int p = 0;
        while (p < codes.length && p < shape.length()) {
            char s = shape.charAt(p);
            boolean fits = s == '#' ? in(codes[p], 48, 57) : codes[p] == s;
            if (!fits) {
                break;
            }
            p++;
        }
        return p;
    }

    int wall(int sheet, int sort, int i, int n) {
        fault = 0;
        if (!in(sheet, 0, 3)) {
            return UNKNOWN;
        }
        if (!in(sort, 0, 2)) {
            return OUTSIDE;
        }
        return (int) faulting(false, () -> raise(cells(sheet, sort, i, n)));
    }

    private int raise(int[] codes) {
        int farthest = 0;
        for (int high = 1; high <= 4; high++) {
            for (int w = 2; w <= 6; w++) {
                String shape = "w" + high + w + (";" + "#".repeat(w)).repeat(high);
                int fits = fitting(codes, shape);
                if (fits == shape.length() && fits == codes.length) {
                    begin(codes, high, w);
                    return high * w;
                }
                farthest = Math.max(farthest, fits);
            }
        }
        return -100 - farthest;
    }

    private void begin(int[] codes, int high, int w) {
        wide = w;
        year = 0;
        smoke = 0;
        line = 10;
        lights = new ArrayList<>();
        coats = new ArrayList<>();
        coats.add(new Plain(0, new int[] {90, 90, 90}));
        spots = new ArrayList<>();
        for (int r = 0; r < high; r++) {
            for (int c = 0; c < w; c++) {
                Spot s = new Spot();
                s.row = r;
                s.column = c;
                s.sun = codes[4 + r * (w + 1) + c] - 48;
                s.coat = coats.get(0);
                spots.add(s);
            }
        }
    }

    int ofCell(int c, int what) {
        if (!isCell(c)) {
            return UNKNOWN;
        }
        Spot s = spots.get(c);
        int[] all = {s.sun, s.coat.number, s.had, s.air, s.picture ? 1 : 0};
        return in(what, 0, 4) ? all[what] : OUTSIDE;
    }

    int set(int what, int v) {
        boolean fine = what == 0 && in(v, 0, 9) || what == 1 && in(v, 0, 999);
        if (!fine) {
            return OUTSIDE;
        }
        if (noWall()) {
            return STATE;
        }
        int was;
        if (what == 0) {
            was = smoke;
            smoke = v;
        } else {
            was = line;
            line = v;
        }
        return was;
    }

    int years(int n) {
        if (!in(n, 0, 40) || (long) year + n > 40) {
            return OUTSIDE;
        }
        if (noWall()) {
            return STATE;
        }
        for (int y = 0; y < n; y++) {
            year++;
            for (Spot s : spots) {
                s.year();
            }
        }
        return year;
    }

    int hang(int c, boolean is) {
        if (!isCell(c)) {
            return UNKNOWN;
        }
        if (spots.get(c).picture == is) {
            return 0;
        }
        spots.get(c).picture = is;
        return 1;
    }

    // ---- 2

    private Plain made(int kind, int... bands) {
        int k = coats.size();
        return kind == 0 ? new Plain(k, bands) : kind == 1 ? new Shiny(k, bands) : new Fast(k, bands);
    }

    int coat(int kind, int a, int b, int c) {
        if (!in(kind, 0, 2) || !in(a, 0, 99) || !in(b, 0, 99) || !in(c, 0, 99)) {
            return OUTSIDE;
        }
        if (noWall()) {
            return STATE;
        }
        if (coats.size() == 6) {
            return FULL;
        }
        coats.add(made(kind, a, b, c));
        return coats.size() - 1;
    }

    int ofCoat(int k, int what) {
        if (!isCoat(k)) {
            return UNKNOWN;
        }
        if (!in(what, -1, 2)) {
            return OUTSIDE;
        }
        return what == -1 ? coats.get(k).kind() : coats.get(k).bands[what];
    }

    int paint(int c, int coat) {
        if (!isCell(c) || !isCoat(coat)) {
            return UNKNOWN;
        }
        int was = spots.get(c).coat.number;
        spots.get(c).fresh(coats.get(coat));
        return was;
    }

    private int back(Spot s, int band, boolean aside) {
        int left = s.coat.bands[band] - s.coat.loss(s.had * (band + 1) / 10, s.air * smoke / 5);
        return (left < 0 ? 0 : left) + (aside ? s.coat.gleam() : 0);
    }

    int back(int c, int band, boolean aside) {
        if (!isCell(c)) {
            return UNKNOWN;
        }
        return in(band, 0, 2) ? back(spots.get(c), band, aside) : OUTSIDE;
    }

    int light(int a, int b, int c) {
        if (!in(a, 0, 9) || !in(b, 0, 9) || !in(c, 0, 9)) {
            return OUTSIDE;
        }
        if (noWall()) {
            return STATE;
        }
        if (lights.size() == 4) {
            return FULL;
        }
        lights.add(new int[] {a, b, c});
        return lights.size() - 1;
    }

    private int look(Spot s, int[] light, boolean aside) {
        return back(s, 0, aside) * light[0] + back(s, 1, aside) * light[1] + back(s, 2, aside) * light[2];
    }

    int look(int c, int light, boolean aside) {
        return isCell(c) && isLight(light) ? look(spots.get(c), lights.get(light), aside) : UNKNOWN;
    }

    private int apart(Spot s, Spot other, int[] light, boolean aside) {
        return Math.abs(look(s, light, aside) - look(other, light, aside));
    }

    int unlike(int c, int other, int light, boolean aside) {
        if (!isCell(c) || !isCell(other) || !isLight(light)) {
            return UNKNOWN;
        }
        return apart(spots.get(c), spots.get(other), lights.get(light), aside);
    }

    private int farthest(Spot s, Spot other) {
        int most = -1;
        for (int[] light : lights) {
            most = Math.max(most, Math.max(apart(s, other, light, false), apart(s, other, light, true)));
        }
        return most;
    }

    private List<int[]> seenEdges(List<Spot> all) {
        List<int[]> seen = new ArrayList<>();
        for (int a = 0; a < all.size(); a++) {
            for (int b = a + 1; b < all.size(); b++) {
                Spot s = all.get(a);
                Spot t = all.get(b);
                boolean edge = Math.abs(s.row - t.row) + Math.abs(s.column - t.column) == 1;
                if (edge && farthest(s, t) >= line) {
                    seen.add(new int[] {a, b});
                }
            }
        }
        return seen;
    }

    private int seenOf(int c) {
        int n = 0;
        for (int[] e : seenEdges(spots)) {
            n += e[0] == c || e[1] == c ? 1 : 0;
        }
        return n;
    }

    int seen(int c) {
        if (c == -1) {
            return seenEdges(spots).size();
        }
        return isCell(c) ? seenOf(c) : UNKNOWN;
    }

    // ---- 3

    private Plain mixed(int[] drops) {
        int n = drops[0] + drops[1] + drops[2] + drops[3];
        int[] bands = new int[3];
        int kind = -1;
        for (int k = 0; k < 4; k++) {
            if (drops[k] > 0) {
                kind = kind < 0 ? coats.get(k).kind() : kind;
                for (int b = 0; b < 3; b++) {
                    bands[b] += drops[k] * coats.get(k).bands[b];
                }
            }
        }
        return made(kind, bands[0] / n, bands[1] / n, bands[2] / n);
    }

    private boolean isMix(int[] drops, int most) {
        long n = 0;
        for (int k = 0; k < 4; k++) {
            if (!in(drops[k], 0, 9) || drops[k] > 0 && k >= coats.size()) {
                return false;
            }
            n += drops[k];
        }
        return in(n, 1, most);
    }

    int mix(int a, int b, int c, int d) {
        int[] drops = {a, b, c, d};
        if (!isMix(drops, 12)) {
            return OUTSIDE;
        }
        if (coats.size() == 6) {
            return FULL;
        }
        coats.add(mixed(drops));
        return coats.size() - 1;
    }

    int best(int c, int what) {
        if (!isCell(c)) {
            return UNKNOWN;
        }
        if (!in(what, -1, 3)) {
            return OUTSIDE;
        }
        List<int[]> rows = new ArrayList<>();
        // Counted down, so that no order comes of itself.
        for (int code = 7 * 7 * 7 * 7 - 1; code >= 0; code--) {
            int[] drops = {code % 7, code / 7 % 7, code / 49 % 7, code / 343};
            if (isMix(drops, 6)) {
                Spot fresh = spots.get(c).again();
                fresh.fresh(mixed(drops));
                int unlike = Math.max(0, farthest(fresh, spots.get(c)));
                rows.add(new int[] {unlike, drops[0] + drops[1] + drops[2] + drops[3], drops[0], drops[1], drops[2], drops[3]});
            }
        }
        rows.sort(Model::byRow);
        return what == -1 ? rows.get(0)[0] : rows.get(0)[2 + what];
    }

    private static int byRow(int[] a, int[] b) {
        for (int i = 0; i < a.length; i++) {
            if (a[i] != b[i]) {
                return Integer.compare(a[i], b[i]);
            }
        }
        return 0;
    }

    int traitors(int light, int other, int k) {
        if (!isLight(light) || !isLight(other) || k < -1) {
            return UNKNOWN;
        }
        List<Integer> pairs = new ArrayList<>();
        for (Plain a : coats) {
            for (Plain b : coats) {
                Spot s = new Spot();
                Spot t = new Spot();
                s.fresh(a);
                t.fresh(b);
                boolean is = a.number < b.number && apart(s, t, lights.get(light), false) < line
                    && apart(s, t, lights.get(other), false) >= line;
                if (is) {
                    pairs.add(10 * a.number + b.number);
                }
            }
        }
        pairs.sort(Comparator.naturalOrder());
        return k == -1 ? pairs.size() : k < pairs.size() ? pairs.get(k) : NONE;
    }

    // ---- 4

    private List<Spot> painted(int coat, int top, int left, int bottom, int right) {
        List<Spot> all = new ArrayList<>();
        for (Spot s : spots) {
            Spot t = s.again();
            if (in(t.row, top, bottom) && in(t.column, left, right)) {
                t.fresh(coats.get(coat));
            }
            all.add(t);
        }
        return all;
    }

    int patch(int c, int coat, int what) {
        if (!isCell(c) || !isCoat(coat)) {
            return UNKNOWN;
        }
        if (!in(what, 0, 2)) {
            return OUTSIDE;
        }
        List<int[]> found = new ArrayList<>();
        Spot at = spots.get(c);
        for (Spot last : spots) {
            for (Spot first : spots) {
                boolean around = in(at.row, first.row, last.row) && in(at.column, first.column, last.column);
                if (around && seenEdges(painted(coat, first.row, first.column, last.row, last.column)).isEmpty()) {
                    int size = (last.row - first.row + 1) * (last.column - first.column + 1);
                    found.add(new int[] {size, first.row, first.column, last.row, last.column});
                }
            }
        }
        if (found.isEmpty()) {
            return NONE;
        }
        found.sort(Model::byRow);
        int[] f = found.get(0);
        return what == 0 ? f[0] : what == 1 ? f[1] * wide + f[2] : f[3] * wide + f[4];
    }

    int leave(int c, int coat) {
        if (!isCell(c) || !isCoat(coat)) {
            return UNKNOWN;
        }
        Spot s = spots.get(c);
        return 100 + seenEdges(spots).size() - seenEdges(painted(coat, s.row, s.column, s.row, s.column)).size();
    }

    int on(int c, int light, int n) {
        if (!isCell(c) || !isLight(light)) {
            return UNKNOWN;
        }
        if (!in(n, 0, 40)) {
            return OUTSIDE;
        }
        Spot later = spots.get(c).again();
        for (int y = 0; y < n; y++) {
            later.year();
        }
        return look(later, lights.get(light), false);
    }

    int hide(int what) {
        if (!in(what, 0, 1)) {
            return OUTSIDE;
        }
        if (noWall()) {
            return STATE;
        }
        int at = spots.size() - 1;
        for (int c = spots.size() - 1; c >= 0; c--) {
            at = seenOf(c) >= seenOf(at) ? c : at;
        }
        return what == 0 ? at : seenOf(at);
    }

    // ---- 5

    private List<Integer> asTold(int coat, int sun, int[] told, int most) {
        List<Integer> years = new ArrayList<>();
        Spot s = new Spot();
        s.sun = sun;
        s.fresh(coats.get(coat));
        for (int n = 0; n <= most; n++) {
            if (back(s, 0, false) == told[0] && back(s, 1, false) == told[1] && back(s, 2, false) == told[2]) {
                years.add(n);
            }
            s.year();
        }
        return years;
    }

    int hung(int coat, int sun, int sheet, int sort, int i, int what) {
        fault = 0;
        if (!isCoat(coat) || !in(sheet, 0, 3)) {
            return UNKNOWN;
        }
        if (!in(sun, 0, 9) || !in(what, 0, 2) || !in(sort, 0, 2)) {
            return OUTSIDE;
        }
        return (int) faulting(false, () -> {
            List<Integer> us = asTold(coat, sun, cells(sheet, sort, i, 3), year);
            return what == 0 ? us.size() : us.isEmpty() ? NONE : us.get(what == 1 ? 0 : us.size() - 1);
        });
    }

    long old(int coat, int sun, int sheet, int sort, int i) {
        fault = 0;
        if (!isCoat(coat) || !in(sheet, 0, 3) || !in(sun, 0, 9) || !in(sort, 0, 2)) {
            return LOST;
        }
        return faulting(true, () -> {
            long all = 0;
            for (int n : asTold(coat, sun, cells(sheet, sort, i, 3), 40)) {
                all += 1L << n;
            }
            return all;
        });
    }

    // ---- 6

    int sheet(int k, int sort, int n) {
        fault = 0;
        if (!in(k, 0, 3)) {
            return UNKNOWN;
        }
        if (!in(sort, 0, 2) || n > 40) {
            return OUTSIDE;
        }
        return (int) faulting(false, () -> {
            sheets[k] = row(sort, n);
            return 1;
        });
    }

    int lose(int k) {
        if (!in(k, 0, 3)) {
            return UNKNOWN;
        }
        int had = sheets[k] == null ? 0 : 1;
        sheets[k] = null;
        return had;
    }

    int put(int k, int i, int v) {
        fault = 0;
        if (!in(k, 0, 3)) {
            return UNKNOWN;
        }
        return (int) faulting(false, () -> {
            if (sheets[k] instanceof byte[]) {
                ((byte[]) sheets[k])[i] = (byte) v;
            } else if (sheets[k] instanceof short[]) {
                ((short[]) sheets[k])[i] = (short) v;
            } else {
                ((int[]) sheets[k])[i] = v;
            }
            return 1;
        });
    }

    long cell(int k, int i, int sort) {
        fault = 0;
        if (!in(k, 0, 3) || !in(sort, 0, 2)) {
            return LOST;
        }
        return faulting(true, () -> get(sheets[k], sort, i));
    }

    int copy(int k, int i, int other, int j, int n) {
        fault = 0;
        if (!in(k, 0, 3) || !in(other, 0, 3)) {
            return UNKNOWN;
        }
        return (int) faulting(false, () -> {
            System.arraycopy(sheets[k], i, sheets[other], j, n);
            return n;
        });
    }

    int tell(int k) {
        return isCoat(k) ? coats.get(k).telling() : UNKNOWN;
    }

    int name(int k) {
        return isCoat(k) ? coats.get(k).named() : UNKNOWN;
    }

    int as(int k, int kind) {
        fault = 0;
        if (!isCoat(k)) {
            return UNKNOWN;
        }
        if (!in(kind, 0, 2)) {
            return OUTSIDE;
        }
        Class<?>[] kinds = {Plain.class, Shiny.class, Fast.class};
        return (int) faulting(false, () -> {
            kinds[kind].cast(coats.get(k));
            return 1;
        });
    }

    int trace() {
        return trace;
    }

    int fault() {
        return fault;
    }

    int many(int what) {
        int[] all = {spots.size(), wide, coats.size(), lights.size(), year, smoke, line};
        return in(what, 0, 6) ? all[what] : OUTSIDE;
    }
}
