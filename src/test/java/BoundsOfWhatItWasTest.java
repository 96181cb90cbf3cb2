/** Boundary cases of paragraph 5 and of promises 22 and 23: hung, old. */
public final class BoundsOfWhatItWasTest {
    private static final long ALWAYS = (1L << 41) - 1;
    private static Bounds b;

    public static void main(String[] args) {
        b = new Bounds(args);
        fromYearNoughtToYearAsItIs();
        yearsOfAirUpToForty();
        asToldInAllBands();
        notFromAside();
        noneAndEmptySet();
        hungRefusals();
        hungFaults();
        oldRefusals();
        oldFaults();
        threeCells();
        b.end("BoundsOfWhatItWasTest");
    }

    private static TouchUp inYear(int year) {
        TouchUp x = Bounds.dark(1, 2);
        x.coat(1, 0, 0, 0);
        x.coat(2, 90, 90, 90);
        x.years(year);
        return x;
    }

    private static void told(TouchUp x, int first, int second, int third) {
        x.sheet(1, 2, 3);
        x.put(1, 0, first);
        x.put(1, 1, second);
        x.put(1, 2, third);
    }

    private static void hungIs(TouchUp x, int coat, int sun, int count, int least, int greatest) {
        String call = "hung(" + coat + ", " + sun + ", 1, 2, 0, ";
        b.is(call + "0)", x.hung(coat, sun, 1, 2, 0, 0), count);
        b.is(call + "1)", x.hung(coat, sun, 1, 2, 0, 1), least);
        b.is(call + "2)", x.hung(coat, sun, 1, 2, 0, 2), greatest);
        b.is("fault() behind it", x.fault(), 0);
    }

    private static void oldIs(TouchUp x, int coat, int sun, long want) {
        b.is("old(" + coat + ", " + sun + ", 1, 2, 0)", x.old(coat, sun, 1, 2, 0), want);
        b.is("fault() behind it", x.fault(), 0);
    }

    private static void fromYearNoughtToYearAsItIs() {
        b.says("behind a picture from a YEAR u on (0 .. YEAR as it is)");
        for (int year : new int[] {0, 1, 2, 39, 40}) {
            TouchUp x = inYear(year);
            told(x, 90, 90, 90);
            hungIs(x, 0, 0, year + 1, 0, year);
            hungIs(x, 0, 9, 1, 0, 0);
        }
        // In YEAR u a COAT in SUN 9 has lost 9 times u by 10 in the first BAND.
        for (int u : new int[] {1, 5, 39, 40}) {
            TouchUp x = inYear(u);
            told(x, 90 - 9 * u / 10, Math.max(0, 90 - 18 * u / 10), Math.max(0, 90 - 27 * u / 10));
            hungIs(x, 0, 9, 1, u, u);
            x = inYear(u - 1);
            told(x, 90 - 9 * u / 10, Math.max(0, 90 - 18 * u / 10), Math.max(0, 90 - 27 * u / 10));
            hungIs(x, 0, 9, 0, Bounds.NONE, Bounds.NONE);
        }
    }

    private static void yearsOfAirUpToForty() {
        b.says("years of air n (0 .. 40) of a COAT on a CELL of a SUN without a picture by which it is so");
        for (int year : new int[] {0, 40}) {
            TouchUp x = inYear(year);
            told(x, 90, 90, 90);
            oldIs(x, 0, 0, ALWAYS);
            oldIs(x, 0, 9, 1);
            told(x, 54, 18, 0);
            oldIs(x, 0, 9, 1L << 40);
            told(x, 90 - 35, 90 - 70, 0);
            oldIs(x, 0, 9, 1L << 39);
            // In SUN 1: 30 to 39 years by the first BAND, 35 to 39 by the second one, 37 to 39 by the third one.
            told(x, 87, 83, 79);
            oldIs(x, 0, 1, 7L << 37);
        }
        TouchUp x = inYear(0);
        x.set(0, 9);
        told(x, 90 - 72, 90 - 72, 90 - 72);
        oldIs(x, 0, 0, 1L << 40);
        told(x, 90 - 70, 90 - 70, 90 - 70);
        oldIs(x, 0, 0, 1L << 39);
    }

    private static void asToldInAllBands() {
        b.says("those u by which what comes back in all BANDS is as told");
        for (int band = 0; band <= 2; band++) {
            for (int more = -1; more <= 1; more += 2) {
                TouchUp x = inYear(10);
                int[] back = {81, 72, 63};
                told(x, back[0], back[1], back[2]);
                hungIs(x, 0, 9, 1, 10, 10);
                oldIs(x, 0, 9, 1L << 10);
                back[band] += more;
                told(x, back[0], back[1], back[2]);
                hungIs(x, 0, 9, 0, Bounds.NONE, Bounds.NONE);
                oldIs(x, 0, 9, 0);
            }
        }
        TouchUp x = inYear(10);
        // Of a FAST one half of 9, 18, 27; by the first BAND alone it might be 9 years, too.
        told(x, 86, 81, 77);
        hungIs(x, 2, 9, 1, 10, 10);
    }

    private static void notFromAside() {
        b.says("is as told (not from ASIDE)");
        TouchUp x = inYear(40);
        told(x, 0, 0, 0);
        hungIs(x, 1, 9, 41, 0, 40);
        oldIs(x, 1, 9, ALWAYS);
        told(x, 5, 5, 5);
        hungIs(x, 1, 9, 0, Bounds.NONE, Bounds.NONE);
        oldIs(x, 1, 9, 0);
        told(x, 95, 95, 95);
        hungIs(x, 2, 0, 0, Bounds.NONE, Bounds.NONE);
        oldIs(x, 2, 0, 0);
    }

    private static void noneAndEmptySet() {
        b.says("HUNG: how many u (what 0), the least (1), the greatest (2); NONE.");
        int[] never = {-1, 91, 100, Bounds.BIG, Bounds.SMALL};
        for (int v : never) {
            TouchUp x = inYear(40);
            told(x, v, 90, 90);
            hungIs(x, 0, 0, 0, Bounds.NONE, Bounds.NONE);
            oldIs(x, 0, 0, 0);
            told(x, v, v, v);
            hungIs(x, 0, 9, 0, Bounds.NONE, Bounds.NONE);
            oldIs(x, 0, 9, 0);
        }
        TouchUp x = inYear(9);
        x.set(0, 3);
        told(x, 89, 89, 89);
        // 3 times u by 5 is 1 for u 2 and 3.
        hungIs(x, 0, 0, 2, 2, 3);
        oldIs(x, 0, 0, 12);
    }

    private static String call(String name, int... a) {
        StringBuilder s = new StringBuilder(name + "(");
        for (int i = 0; i < a.length; i++) {
            s.append(i == 0 ? "" : ", ").append(a[i]);
        }
        return s.append(")").toString();
    }

    private static void hungFails(Bounds.Making making, int want, int... a) {
        b.failed(call("hung", a), making, x -> x.hung(a[0], a[1], a[2], a[3], a[4], a[5]), want);
    }

    private static void oldFails(Bounds.Making making, int fault, int... a) {
        b.failed(call("old", a), making, x -> x.old(a[0], a[1], a[2], a[3], a[4]), Bounds.LOST, fault);
    }

    private static void hungRefusals() {
        b.says("UNKNOWN: COAT, SHEET; OUTSIDE: SUN (0 .. 9), what, sort");
        hungFails(Bounds::bare, Bounds.UNKNOWN, 0, 0, 2, 2, 0, 0);
        hungFails(Bounds::bare, Bounds.UNKNOWN, 0, 10, 3, 3, -1, 3);
        for (int k : new int[] {-1, 3, 6, Bounds.BIG, Bounds.SMALL}) {
            hungFails(Bounds::busy, Bounds.UNKNOWN, k, 0, 2, 2, 0, 0);
            hungFails(Bounds::busy, Bounds.UNKNOWN, k, 10, 3, 3, -1, 3);
        }
        hungFails(Bounds::full, Bounds.UNKNOWN, 6, 0, 2, 2, 0, 0);
        for (int sheet : new int[] {-1, 4, Bounds.BIG, Bounds.SMALL}) {
            hungFails(Bounds::busy, Bounds.UNKNOWN, 0, 0, sheet, 2, 0, 0);
            hungFails(Bounds::busy, Bounds.UNKNOWN, 0, 10, sheet, 3, -1, 3);
        }
        for (int sun : new int[] {-1, 10, Bounds.BIG, Bounds.SMALL}) {
            hungFails(Bounds::busy, Bounds.OUTSIDE, 0, sun, 2, 2, 0, 0);
            hungFails(Bounds::busy, Bounds.OUTSIDE, 0, sun, 3, 2, -1, 0);
        }
        for (int v : new int[] {-1, 3, Bounds.BIG, Bounds.SMALL}) {
            hungFails(Bounds::busy, Bounds.OUTSIDE, 0, 0, 2, 2, 0, v);
            hungFails(Bounds::busy, Bounds.OUTSIDE, 0, 0, 3, 2, -1, v);
            hungFails(Bounds::busy, Bounds.OUTSIDE, 0, 0, 2, v, 0, 0);
            hungFails(Bounds::busy, Bounds.OUTSIDE, 0, 0, 3, v, -1, 0);
        }
        // By SMOKE 3 nothing is lost in YEARS 0 and 1.
        hungFails(Bounds::busy, 2, 0, 0, 2, 2, 0, 0);
        hungFails(Bounds::busy, 0, 0, 0, 2, 2, 0, 1);
        hungFails(Bounds::busy, 1, 0, 0, 2, 2, 0, 2);
        hungFails(Bounds::full, 1, 0, 9, 2, 2, 0, 0);
        hungFails(Bounds::full, 0, 5, 9, 2, 2, 0, 0);
        hungFails(Bounds::full, Bounds.NONE, 5, 9, 2, 2, 0, 2);
    }

    private static void hungFaults() {
        b.says("OUTSIDE: SUN (0 .. 9), what, sort; FAULTS CAST, NULL, INDEX: three cells.");
        for (int sort = 0; sort <= 2; sort++) {
            hungFails(Bounds::busy, Bounds.NULL, 0, 0, 3, sort, 0, 0);
            hungFails(Bounds::busy, Bounds.NULL, 0, 9, 3, sort, -1, 2);
            for (int sheet = 0; sheet <= 2; sheet++) {
                if (sort != sheet) {
                    hungFails(Bounds::busy, Bounds.CAST, 0, 0, sheet, sort, 0, 0);
                    hungFails(Bounds::busy, Bounds.CAST, 0, 9, sheet, sort, -1, 2);
                }
            }
        }
        for (int i : new int[] {-1, 1, 2, 3, 4, Bounds.BIG, Bounds.BIG - 1, Bounds.BIG - 2, Bounds.SMALL}) {
            hungFails(Bounds::busy, Bounds.INDEX, 0, 0, 2, 2, i, 0);
        }
        hungFails(Bounds::busy, 0, 0, 0, 1, 1, 2, 0);
        hungFails(Bounds::busy, Bounds.INDEX, 0, 0, 1, 1, 3, 0);
        hungFails(Bounds::busy, 0, 0, 0, 0, 0, 8, 0);
        hungFails(Bounds::busy, Bounds.INDEX, 0, 0, 0, 0, 9, 0);
    }

    private static void oldRefusals() {
        b.says("LOST: UNKNOWN: COAT, SHEET; OUTSIDE: SUN, sort");
        oldFails(Bounds::bare, 0, 0, 0, 2, 2, 0);
        oldFails(Bounds::bare, 0, 0, 0, 3, 2, -1);
        for (int k : new int[] {-1, 3, 6, Bounds.BIG, Bounds.SMALL}) {
            oldFails(Bounds::busy, 0, k, 0, 2, 2, 0);
            oldFails(Bounds::busy, 0, k, 0, 3, 2, -1);
        }
        oldFails(Bounds::full, 0, 6, 0, 2, 2, 0);
        for (int sheet : new int[] {-1, 4, Bounds.BIG, Bounds.SMALL}) {
            oldFails(Bounds::busy, 0, 0, 0, sheet, 2, 0);
        }
        for (int sun : new int[] {-1, 10, Bounds.BIG, Bounds.SMALL}) {
            oldFails(Bounds::busy, 0, 0, sun, 2, 2, 0);
            oldFails(Bounds::busy, 0, 0, sun, 3, 2, -1);
            oldFails(Bounds::busy, 0, 0, sun, 2, 1, -1);
        }
        for (int sort : new int[] {-1, 3, Bounds.BIG, Bounds.SMALL}) {
            oldFails(Bounds::busy, 0, 0, 0, 2, sort, 0);
            oldFails(Bounds::busy, 0, 0, 0, 3, sort, -1);
        }
        b.failed("old(0, 0, 2, 2, 0)", Bounds::busy, x -> x.old(0, 0, 2, 2, 0), 3, 0);
        b.failed("old(0, 9, 2, 2, 0)", Bounds::full, x -> x.old(0, 9, 2, 2, 0), 1, 0);
        b.failed("old(5, 9, 2, 2, 0)", Bounds::full, x -> x.old(5, 9, 2, 2, 0), 0, 0);
    }

    private static void oldFaults() {
        b.says("OUTSIDE: SUN, sort; FAULTS CAST, NULL, INDEX: three cells.");
        for (int sort = 0; sort <= 2; sort++) {
            oldFails(Bounds::busy, 1, 0, 0, 3, sort, 0);
            oldFails(Bounds::busy, 1, 0, 9, 3, sort, -1);
            for (int sheet = 0; sheet <= 2; sheet++) {
                if (sort != sheet) {
                    oldFails(Bounds::busy, 2, 0, 0, sheet, sort, 0);
                    oldFails(Bounds::busy, 2, 0, 9, sheet, sort, -1);
                }
            }
        }
        for (int i : new int[] {-1, 1, 2, 3, 4, Bounds.BIG, Bounds.BIG - 1, Bounds.BIG - 2, Bounds.SMALL}) {
            oldFails(Bounds::busy, 3, 0, 0, 2, 2, i);
        }
        b.failed("old(0, 0, 1, 1, 2)", Bounds::busy, x -> x.old(0, 0, 1, 1, 2), 0, 0);
        oldFails(Bounds::busy, 3, 0, 0, 1, 1, 3);
    }

    private static void threeCells() {
        b.says("INDEX: three cells.");
        for (int sort = 0; sort <= 2; sort++) {
            for (int length : new int[] {0, 1, 2, 3, 4, 40}) {
                TouchUp x = Bounds.dark(1, 2);
                x.sheet(3, sort, length);
                for (int i = 0; i < length; i++) {
                    x.put(3, i, 90);
                }
                for (int i = -1; i <= length + 1; i++) {
                    boolean there = i >= 0 && i + 3 <= length;
                    b.is("hung, three of " + length + " from " + i + " on", x.hung(0, 5, 3, sort, i, 0), there ? 1 : Bounds.INDEX);
                    b.is("fault() behind it", x.fault(), there ? 0 : 3);
                    b.is("old, three of " + length + " from " + i + " on", x.old(0, 5, 3, sort, i), there ? 1 : Bounds.LOST);
                    b.is("fault() behind it", x.fault(), there ? 0 : 3);
                }
            }
        }
    }
}
