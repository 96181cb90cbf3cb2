/** Boundary cases of paragraph 3 and of promises 15 to 17: mix, best, traitors. */
public final class BoundsOfMixesTest {
    private static Bounds b;

    public static void main(String[] args) {
        b = new Bounds(args);
        dropsOfEach();
        dropsInAll();
        dropsOfCoatsThereAreNot();
        bandsAreCut();
        theKindOfTheLeastNumber();
        mixRefusals();
        bestRefusals();
        bestOfCoatsThereAre();
        bestOfOneToSixDrops();
        bestByTheGreatestOfAllLights();
        bestFromAsideOrNot();
        bestFreshlyPainted();
        bestOfSeveral();
        traitorsByLine();
        allPairsAndNone();
        traitorsRefusals();
        b.end("BoundsOfMixesTest");
    }

    /** As busy, with a fourth COAT. */
    private static TouchUp four() {
        TouchUp x = Bounds.busy();
        x.coat(0, 11, 22, 33);
        return x;
    }

    private static String mixOf(int[] d) {
        return "mix(" + d[0] + ", " + d[1] + ", " + d[2] + ", " + d[3] + ")";
    }

    private static void outside(Bounds.Making making, int... d) {
        b.refused(mixOf(d), making, x -> x.mix(d[0], d[1], d[2], d[3]), Bounds.OUTSIDE);
    }

    private static void taken(int... d) {
        TouchUp x = four();
        b.is(mixOf(d), x.mix(d[0], d[1], d[2], d[3]), 4);
        b.is("many(2) behind it", x.many(2), 5);
    }

    private static void dropsOfEach() {
        b.says("A MIX of drops (0 .. 9 each) of COATS 0 .. 3");
        for (int p = 0; p < 4; p++) {
            for (int drops : new int[] {-1, 10, 12, Bounds.BIG, Bounds.SMALL}) {
                int[] d = new int[4];
                d[p] = drops;
                outside(BoundsOfMixesTest::four, d);
                d[(p + 1) % 4] = 2;
                outside(BoundsOfMixesTest::four, d);
            }
            int[] most = new int[4];
            most[p] = 9;
            taken(most);
            int[] least = {1, 1, 1, 1};
            least[p] = 0;
            taken(least);
        }
    }

    private static void dropsInAll() {
        b.says("1 .. 12 in all");
        outside(BoundsOfMixesTest::four, 0, 0, 0, 0);
        taken(1, 0, 0, 0);
        taken(0, 1, 0, 0);
        taken(0, 0, 1, 0);
        taken(0, 0, 0, 1);
        taken(3, 3, 3, 3);
        taken(9, 3, 0, 0);
        taken(0, 0, 3, 9);
        taken(9, 1, 1, 1);
        outside(BoundsOfMixesTest::four, 4, 3, 3, 3);
        outside(BoundsOfMixesTest::four, 3, 3, 3, 4);
        outside(BoundsOfMixesTest::four, 9, 4, 0, 0);
        outside(BoundsOfMixesTest::four, 0, 0, 4, 9);
        outside(BoundsOfMixesTest::four, 9, 9, 9, 9);
        // Twelve or one in all, but not of drops that are as told.
        outside(BoundsOfMixesTest::four, 9, 9, -6, 0);
        outside(BoundsOfMixesTest::four, 2, -1, 0, 0);
        outside(BoundsOfMixesTest::four, Bounds.BIG, Bounds.BIG, 3, 0);
        outside(BoundsOfMixesTest::four, Bounds.SMALL, Bounds.SMALL, 1, 0);
    }

    private static void dropsOfCoatsThereAreNot() {
        b.says("of a COAT that there is not");
        outside(Bounds::bare, 1, 0, 0, 0);
        outside(Bounds::bare, 0, 0, 0, 0);
        outside(() -> Bounds.dark(1, 2), 0, 1, 0, 0);
        outside(() -> Bounds.dark(1, 2), 9, 0, 1, 0);
        outside(() -> Bounds.dark(1, 2), 1, 0, 0, 1);
        outside(Bounds::busy, 0, 0, 0, 1);
        outside(Bounds::busy, 1, 1, 1, 1);
        TouchUp x = Bounds.dark(1, 2);
        b.is("mix(9, 0, 0, 0), COAT 0 alone", x.mix(9, 0, 0, 0), 1);
        b.is("mix(1, 0, 1, 0), COATS 0 and 1", x.mix(1, 0, 1, 0), Bounds.OUTSIDE);
        b.is("mix(1, 1, 0, 0), COATS 0 and 1", x.mix(1, 1, 0, 0), 2);
        b.is("mix(1, 1, 1, 0), COATS 0 to 2", x.mix(1, 1, 1, 0), 3);
        b.is("mix(1, 1, 1, 1), COATS 0 to 3", x.mix(1, 1, 1, 1), 4);
    }

    private static void bandsAre(TouchUp x, int k, int first, int second, int third) {
        b.is("ofCoat(" + k + ", 0)", x.ofCoat(k, 0), first);
        b.is("ofCoat(" + k + ", 1)", x.ofCoat(k, 1), second);
        b.is("ofCoat(" + k + ", 2)", x.ofCoat(k, 2), third);
    }

    private static void bandsAreCut() {
        b.says("each BAND is that of all drops, summed up, by how many (cut)");
        TouchUp x = Bounds.dark(1, 2);
        x.coat(0, 99, 0, 98);
        x.coat(0, 99, 0, 99);
        x.coat(0, 99, 1, 97);
        x.mix(0, 3, 9, 0);
        bandsAre(x, 4, 99, 0, 98);
        x.mix(0, 1, 0, 9);
        bandsAre(x, 5, 99, 0, 97);
        x = Bounds.dark(1, 2);
        x.coat(0, 0, 1, 2);
        x.mix(1, 1, 0, 0);
        bandsAre(x, 2, 45, 45, 46);
        x.mix(0, 9, 0, 0);
        bandsAre(x, 3, 0, 1, 2);
        x.mix(1, 9, 0, 0);
        bandsAre(x, 4, 9, 9, 10);
    }

    private static void theKindOfTheLeastNumber() {
        b.says("its kind that of the COAT of the least number that is in it");
        int[][] kinds = {{0, 2, 1, 0}, {0, 0, 2, 1}};
        int[][] mixes = {{1, 0, 0, 0}, {1, 9, 1, 1}, {0, 1, 0, 0}, {0, 1, 9, 2}, {0, 0, 1, 0}, {0, 0, 1, 9}, {0, 0, 0, 9}};
        int[] least = {0, 0, 1, 1, 2, 2, 3};
        for (int[] kind : kinds) {
            for (int m = 0; m < mixes.length; m++) {
                TouchUp x = Bounds.dark(1, 2);
                for (int k = 1; k <= 3; k++) {
                    x.coat(kind[k], 1, 1, 1);
                }
                b.is(mixOf(mixes[m]), x.mix(mixes[m][0], mixes[m][1], mixes[m][2], mixes[m][3]), 4);
                b.is("its kind", x.ofCoat(4, -1), kind[least[m]]);
            }
        }
    }

    private static void mixRefusals() {
        b.says("OUTSIDE: drops, there are none (or more than 12), of a COAT that there is not; FULL.");
        b.refused("mix(1, 0, 0, 0)", Bounds::full, x -> x.mix(1, 0, 0, 0), Bounds.FULL);
        b.refused("mix(3, 3, 3, 3)", Bounds::full, x -> x.mix(3, 3, 3, 3), Bounds.FULL);
        outside(Bounds::full, 0, 0, 0, 0);
        outside(Bounds::full, 10, 0, 0, 0);
        outside(Bounds::full, 9, 4, 0, 0);
        outside(Bounds::full, 1, 0, 0, -1);
    }

    private static void bestIs(TouchUp x, int c, int unlike, int... drops) {
        b.is("best(" + c + ", -1)", x.best(c, -1), unlike);
        for (int k = 0; k < 4; k++) {
            b.is("best(" + c + ", " + k + ")", x.best(c, k), drops[k]);
        }
    }

    private static void bestRefusals() {
        b.says("BEST of a CELL: how UNLIKE (what -1; 0 without LIGHTS), drops of COATS 0 .. 3. UNKNOWN: CELL; OUTSIDE: what.");
        b.refused("best(0, -1)", Bounds::bare, x -> x.best(0, -1), Bounds.UNKNOWN);
        b.refused("best(0, 4)", Bounds::bare, x -> x.best(0, 4), Bounds.UNKNOWN);
        for (int c : new int[] {-1, 6, 24, Bounds.BIG, Bounds.SMALL}) {
            b.refused("best(" + c + ", -1)", Bounds::busy, x -> x.best(c, -1), Bounds.UNKNOWN);
            b.refused("best(" + c + ", 4)", Bounds::busy, x -> x.best(c, 4), Bounds.UNKNOWN);
        }
        for (int what : new int[] {-2, 4, Bounds.BIG, Bounds.SMALL}) {
            b.refused("best(0, " + what + ")", Bounds::busy, x -> x.best(0, what), Bounds.OUTSIDE);
            b.refused("best(5, " + what + ")", Bounds::full, x -> x.best(5, what), Bounds.OUTSIDE);
        }
        int[] drops = {1, 0, 0, 0};
        for (int w = 0; w <= 3; w++) {
            int what = w;
            b.asked("best(0, " + w + ")", BoundsOfMixesTest::fresh, x -> x.best(0, what), drops[w]);
            b.asked("best(5, " + w + ")", BoundsOfMixesTest::fresh, x -> x.best(5, what), drops[w]);
        }
        b.asked("best(0, -1)", BoundsOfMixesTest::fresh, x -> x.best(0, -1), 0);
        b.asked("best(5, -1)", BoundsOfMixesTest::fresh, x -> x.best(5, -1), 0);
    }

    /** As busy, with CELLS 0 and 5 painted anew. */
    private static TouchUp fresh() {
        TouchUp x = Bounds.busy();
        x.paint(0, 0);
        x.paint(5, 0);
        return x;
    }

    private static void bestOfCoatsThereAre() {
        b.says("of COATS there are (0 .. 3)");
        TouchUp x = Due.walled("w12;90");
        x.light(1, 0, 0);
        x.years(40);
        bestIs(x, 0, 36, 1, 0, 0, 0);
        x = Bounds.dark(1, 2);
        x.light(1, 0, 0);
        for (int k = 1; k <= 3; k++) {
            x.coat(0, 90, 0, 0);
        }
        x.coat(0, 50, 0, 0);
        x.coat(0, 10, 0, 0);
        x.paint(0, 4);
        x.paint(1, 5);
        // COATS 4 and 5 themselves are in no MIX.
        bestIs(x, 0, 40, 0, 0, 0, 1);
        bestIs(x, 1, 80, 0, 0, 0, 1);
    }

    private static void bestOfOneToSixDrops() {
        b.says("the MIX of 1 .. 6 drops");
        TouchUp x = Bounds.dark(1, 2);
        x.coat(0, 20, 0, 0);
        x.coat(0, 99, 0, 0);
        x.coat(0, 99, 0, 0);
        x.coat(0, 31, 0, 0);
        x.coat(0, 30, 0, 0);
        x.light(1, 0, 0);
        x.paint(0, 4);
        x.paint(1, 5);
        // Six drops, (1, 5), give 31; it takes seven, (1, 6), to give 30.
        bestIs(x, 0, 0, 1, 5, 0, 0);
        bestIs(x, 1, 1, 1, 5, 0, 0);
        x.paint(0, 1);
        bestIs(x, 0, 0, 0, 1, 0, 0);
        for (int p = 1; p <= 2; p++) {
            for (int q = p + 1; q <= 3; q++) {
                bestOfTwo(p, q);
                bestOfTwo(q, p);
            }
        }
    }

    /** One drop of a bright COAT and five of a dark one are the best, though with six of the dark one it would be better. */
    private static void bestOfTwo(int bright, int dark) {
        TouchUp x = Bounds.dark(1, 2);
        for (int k = 1; k <= 3; k++) {
            x.coat(0, k == bright ? 90 : k == dark ? 20 : 99, 0, 0);
        }
        x.coat(0, 30, 0, 0);
        x.light(1, 0, 0);
        x.paint(1, 4);
        int[] drops = new int[4];
        drops[bright] = 1;
        drops[dark] = 5;
        bestIs(x, 1, 1, drops);
    }

    private static void bestByTheGreatestOfAllLights() {
        b.says("the greatest of all LIGHTS, from ASIDE or not");
        for (int last = 1; last <= 3; last++) {
            TouchUp x = Bounds.dark(1, 2);
            x.coat(0, 50, 80, 0);
            x.coat(0, 60, 60, 0);
            x.coat(0, 60, 60, 0);
            x.coat(0, 50, 50, 0);
            x.paint(0, 4);
            x.light(1, 0, 0);
            for (int l = 1; l < last; l++) {
                x.light(0, 0, 0);
            }
            bestIs(x, 0, 0, 0, 1, 0, 0);
            x.light(0, 1, 0);
            // COAT 1 is like it in the first LIGHT, unlike by 30 in the last one.
            bestIs(x, 0, 10, 0, 0, 0, 1);
        }
    }

    private static void bestFromAsideOrNot() {
        b.says("the greatest of all LIGHTS, from ASIDE or not");
        TouchUp x = Bounds.dark(1, 2);
        x.coat(1, 90, 0, 0);
        x.coat(1, 90, 0, 0);
        x.coat(1, 90, 0, 0);
        x.coat(0, 95, 0, 0);
        x.light(1, 0, 0);
        x.paint(1, 4);
        // From ASIDE the shiny ones are unlike by 5.
        bestIs(x, 0, 0, 1, 0, 0, 0);
        // Not from ASIDE they are unlike by 5, too.
        bestIs(x, 1, 5, 0, 0, 0, 1);
        x.paint(0, 1);
        bestIs(x, 0, 0, 0, 0, 0, 1);
        // In which of four LIGHTS it shines makes no difference.
        for (int l = 0; l <= 3; l++) {
            x = Bounds.dark(1, 2);
            x.coat(1, 90, 0, 0);
            x.paint(1, 1);
            for (int other = 0; other <= 3; other++) {
                x.light(other == l ? 1 : 0, 0, 0);
            }
            bestIs(x, 0, 0, 1, 0, 0, 0);
            bestIs(x, 1, 0, 0, 1, 0, 0);
        }
    }

    private static void bestFreshlyPainted() {
        b.says("freshly painted there, is the least UNLIKE what the CELL looks like now");
        TouchUp x = Due.walled("w12;90");
        x.light(1, 0, 0);
        x.set(0, 9);
        x.years(40);
        b.is("look(0, 0, false)", x.look(0, 0, false), 0);
        bestIs(x, 0, 90, 1, 0, 0, 0);
        bestIs(x, 1, 72, 1, 0, 0, 0);
        x.paint(0, 0);
        bestIs(x, 0, 0, 1, 0, 0, 0);
        x.hang(1, true);
        bestIs(x, 1, 72, 1, 0, 0, 0);
    }

    private static void bestOfSeveral() {
        b.says("of several that of the fewest drops, then the first as a row (drops of COAT 0 first)");
        // Without LIGHTS, and in one that has no weight, all are alike.
        for (int lights = 0; lights <= 1; lights++) {
            TouchUp x = Bounds.dark(1, 2);
            if (lights == 1) {
                x.light(0, 0, 0);
            }
            bestIs(x, 1, 0, 1, 0, 0, 0);
            x.coat(1, 1, 2, 3);
            bestIs(x, 1, 0, 0, 1, 0, 0);
            x.coat(2, 1, 2, 3);
            bestIs(x, 1, 0, 0, 0, 1, 0);
            for (int k = 3; k <= 5; k++) {
                x.coat(0, 1, 2, 3);
                bestIs(x, 1, 0, 0, 0, 0, 1);
            }
        }
        TouchUp x = Bounds.dark(1, 2);
        x.coat(0, 30, 0, 0);
        x.coat(0, 50, 0, 0);
        x.coat(0, 70, 0, 0);
        x.coat(0, 60, 0, 0);
        x.coat(0, 40, 0, 0);
        x.light(1, 0, 0);
        x.paint(0, 4);
        x.paint(1, 5);
        // (0, 0, 1, 1) and (1, 1, 0, 0) give 60; (0, 1, 0, 3) is ahead of the second, but of more drops.
        bestIs(x, 0, 0, 0, 0, 1, 1);
        bestIs(x, 1, 0, 0, 1, 1, 0);
        x = Bounds.dark(1, 2);
        x.coat(0, 30, 0, 0);
        x.coat(0, 0, 0, 0);
        x.coat(0, 90, 0, 0);
        x.coat(0, 60, 0, 0);
        x.light(1, 0, 0);
        x.paint(1, 4);
        // (0, 0, 1, 2) is the first row that gives 60, but (0, 1, 0, 1) has fewer drops.
        bestIs(x, 1, 0, 0, 1, 0, 1);
    }

    /** COATS unlike by so much in LIGHTS 0 and 1. */
    private static TouchUp apart(int first, int second) {
        TouchUp x = Bounds.dark(1, 2);
        x.coat(2, 90 - first, 90 - second, 90);
        x.light(1, 0, 0);
        x.light(0, 1, 0);
        return x;
    }

    private static void traitorsByLine() {
        b.says("UNLIKE by less than LINE in the first one, by LINE or more in the other one (not from ASIDE)");
        int[][] cases = {{9, 10, 1}, {10, 10, 0}, {9, 9, 0}, {10, 9, 0}, {0, 10, 1}, {0, 90, 1}, {9, 90, 1}, {10, 90, 0}, {0, 9, 0}};
        for (int[] c : cases) {
            TouchUp x = apart(c[0], c[1]);
            b.is("traitors(0, 1, -1), apart by " + c[0] + ", " + c[1], x.traitors(0, 1, -1), c[2]);
            b.is("traitors(0, 1, 0), apart by " + c[0] + ", " + c[1], x.traitors(0, 1, 0), c[2] == 1 ? 1 : Bounds.NONE);
            x = apart(c[1], c[0]);
            b.is("traitors(1, 0, -1), apart by " + c[1] + ", " + c[0], x.traitors(1, 0, -1), c[2]);
        }
        TouchUp x = apart(0, 90);
        x.set(1, 0);
        b.is("traitors(0, 1, -1), LINE 0", x.traitors(0, 1, -1), 0);
        x.set(1, 1);
        b.is("traitors(0, 1, -1), LINE 1", x.traitors(0, 1, -1), 1);
        x.set(1, 90);
        b.is("traitors(0, 1, -1), LINE 90", x.traitors(0, 1, -1), 1);
        x.set(1, 91);
        b.is("traitors(0, 1, -1), LINE 91", x.traitors(0, 1, -1), 0);
        b.says("pairs of COATS, both fresh");
        x = apart(0, 10);
        x.set(0, 9);
        x.years(40);
        b.is("traitors(0, 1, -1) years on", x.traitors(0, 1, -1), 1);
        for (int second = 9; second <= 10; second++) {
            x = Bounds.dark(1, 2);
            x.coat(0, 81, 90 - second, 90);
            x.light(1, 0, 0);
            x.light(0, 1, 0);
            x.set(0, 9);
            b.is("traitors(0, 1, -1), SMOKE 9, apart by " + second, x.traitors(0, 1, -1), second - 9);
        }
        x = Bounds.dark(1, 2);
        // From ASIDE they would be unlike by 10 in the first LIGHT and by 5 in the other one.
        x.coat(1, 95, 80, 90);
        x.light(1, 0, 0);
        x.light(0, 1, 0);
        b.is("traitors(0, 1, -1), shiny", x.traitors(0, 1, -1), 1);
        // The lesser one of COATS 1 and 2 shines, too, or alone.
        for (int kind = 0; kind <= 2; kind++) {
            x = Bounds.dark(1, 2);
            x.coat(1, 19, 20, 0);
            x.coat(kind, 10, 10, 0);
            x.light(1, 0, 0);
            x.light(0, 1, 0);
            b.is("traitors(0, 1, -1), COAT 1 is shiny", x.traitors(0, 1, -1), 1);
            b.is("traitors(0, 1, 0), COAT 1 is shiny", x.traitors(0, 1, 0), 12);
        }
    }

    private static void allPairsAndNone() {
        b.says("TRAITORS: how many (k -1), the k-th, in order, as 10 times the lesser COAT and the other one; NONE: there are fewer.");
        TouchUp x = Bounds.dark(1, 2);
        x.light(1, 0, 0);
        x.light(0, 1, 0);
        b.is("traitors(0, 1, -1) of one COAT", x.traitors(0, 1, -1), 0);
        b.is("traitors(0, 1, 0) of one COAT", x.traitors(0, 1, 0), Bounds.NONE);
        for (int k = 1; k <= 5; k++) {
            x.coat(0, 90, 75 - 15 * (k - 1), 0);
        }
        int[] pairs = {1, 2, 3, 4, 5, 12, 13, 14, 15, 23, 24, 25, 34, 35, 45};
        b.is("traitors(0, 1, -1) of six COATS", x.traitors(0, 1, -1), 15);
        for (int k = 0; k < 15; k++) {
            b.is("traitors(0, 1, " + k + ")", x.traitors(0, 1, k), pairs[k]);
        }
        b.is("traitors(0, 1, 15)", x.traitors(0, 1, 15), Bounds.NONE);
        b.is("traitors(0, 1, BIG)", x.traitors(0, 1, Bounds.BIG), Bounds.NONE);
        b.is("traitors(1, 0, -1)", x.traitors(1, 0, -1), 0);
        b.is("traitors(1, 0, 0)", x.traitors(1, 0, 0), Bounds.NONE);
        b.is("traitors(1, 1, -1)", x.traitors(1, 1, -1), 0);
        b.is("traitors(1, 1, 0)", x.traitors(1, 1, 0), Bounds.NONE);
    }

    private static void traitorsRefusals() {
        b.says("UNKNOWN: LIGHTS, k below -1.");
        b.refused("traitors(0, 0, -1)", Bounds::bare, x -> x.traitors(0, 0, -1), Bounds.UNKNOWN);
        b.refused("traitors(0, 0, -1)", () -> Bounds.dark(1, 2), x -> x.traitors(0, 0, -1), Bounds.UNKNOWN);
        for (int l : new int[] {-1, 2, 4, Bounds.BIG, Bounds.SMALL}) {
            b.refused("traitors(" + l + ", 0, -1)", Bounds::busy, x -> x.traitors(l, 0, -1), Bounds.UNKNOWN);
            b.refused("traitors(0, " + l + ", 0)", Bounds::busy, x -> x.traitors(0, l, 0), Bounds.UNKNOWN);
        }
        b.refused("traitors(4, 0, -1)", Bounds::full, x -> x.traitors(4, 0, -1), Bounds.UNKNOWN);
        b.refused("traitors(0, 4, -1)", Bounds::full, x -> x.traitors(0, 4, -1), Bounds.UNKNOWN);
        for (int k : new int[] {-2, Bounds.SMALL}) {
            b.refused("traitors(0, 1, " + k + ")", Bounds::busy, x -> x.traitors(0, 1, k), Bounds.UNKNOWN);
        }
        b.asked("traitors(0, 1, -1)", Bounds::busy, x -> x.traitors(0, 1, -1), 0);
        b.asked("traitors(3, 3, 0)", Bounds::full, x -> x.traitors(3, 3, 0), Bounds.NONE);
        b.asked("traitors(0, 0, -1)", Bounds::busy, x -> x.traitors(0, 0, -1), 0);
    }
}
