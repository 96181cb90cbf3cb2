/** Boundary cases of paragraph 2 and of promises 7 to 14: coat, ofCoat, paint, back, light, look, unlike, seen. */
public final class BoundsOfCoatsTest {
    private static Bounds b;

    public static void main(String[] args) {
        b = new Bounds(args);
        kindsAndBands();
        sixCoatsEver();
        ofCoatBounds();
        paintBounds();
        freshlyPainted();
        sunIsCutByTen();
        smokeIsCutByFive();
        bothAreCutByThemselves();
        aFastOneLosesHalfOfBoth();
        whatComesBackIsNothingAtLeast();
        fiveMoreFromAside();
        backBounds();
        weights();
        fourLightsEver();
        lookBounds();
        theLeastAndTheGreatestLook();
        unlikeBounds();
        whichCellsHaveAnEdge();
        seenByLineOrMore();
        seenInSomeLightFromAsideOrNot();
        seenBounds();
        b.end("BoundsOfCoatsTest");
    }

    private static void kindsAndBands() {
        b.says("of a kind: 0 COAT; 1 SHINY, a COAT; 2 FAST, a SHINY");
        for (int kind : new int[] {-1, 3, Bounds.BIG, Bounds.SMALL}) {
            b.refused("coat(" + kind + ", 0, 0, 0)", Bounds::busy, x -> x.coat(kind, 0, 0, 0), Bounds.OUTSIDE);
        }
        for (int kind = 0; kind <= 2; kind++) {
            TouchUp x = Bounds.busy();
            b.is("coat(" + kind + ", 1, 2, 3)", x.coat(kind, 1, 2, 3), 3);
            b.is("its kind", x.ofCoat(3, -1), kind);
        }
        b.says("each of three BANDS (0 .. 99)");
        for (int v : new int[] {-1, 100, Bounds.BIG, Bounds.SMALL}) {
            b.refused("coat(0, " + v + ", 0, 0)", Bounds::busy, x -> x.coat(0, v, 0, 0), Bounds.OUTSIDE);
            b.refused("coat(0, 0, " + v + ", 0)", Bounds::busy, x -> x.coat(0, 0, v, 0), Bounds.OUTSIDE);
            b.refused("coat(0, 0, 0, " + v + ")", Bounds::busy, x -> x.coat(0, 0, 0, v), Bounds.OUTSIDE);
        }
        int[][] bands = {{0, 0, 0}, {99, 99, 99}, {0, 99, 1}, {99, 0, 98}};
        for (int[] a : bands) {
            TouchUp x = Bounds.busy();
            b.is("coat(1, " + a[0] + ", " + a[1] + ", " + a[2] + ")", x.coat(1, a[0], a[1], a[2]), 3);
            for (int band = 0; band <= 2; band++) {
                b.is("ofCoat(3, " + band + ")", x.ofCoat(3, band), a[band]);
            }
        }
    }

    private static void sixCoatsEver() {
        b.says("COATS, 6 ever, numbered as they come");
        TouchUp x = Bounds.dark(1, 2);
        for (int k = 1; k <= 5; k++) {
            b.is("COAT " + k, k % 2 == 1 ? x.coat(2, k, 0, 0) : x.mix(1, 0, 0, 0), k);
            b.is("many(2)", x.many(2), k + 1);
        }
        b.is("a seventh", x.coat(0, 0, 0, 0), Bounds.FULL);
        b.is("a seventh as a MIX", x.mix(1, 0, 0, 0), Bounds.FULL);
        b.is("many(2)", x.many(2), 6);
        b.says("A COAT: its number. OUTSIDE; STATE: there is no WALL; FULL.");
        b.refused("coat(0, 99, 99, 99)", Bounds::full, y -> y.coat(0, 99, 99, 99), Bounds.FULL);
        b.refused("coat(2, 0, 0, 0)", Bounds::full, y -> y.coat(2, 0, 0, 0), Bounds.FULL);
        b.refused("coat(3, 0, 0, 0)", Bounds::full, y -> y.coat(3, 0, 0, 0), Bounds.OUTSIDE);
        b.refused("coat(0, 0, 0, 100)", Bounds::full, y -> y.coat(0, 0, 0, 100), Bounds.OUTSIDE);
        b.refused("coat(0, 99, 99, 99)", Bounds::bare, y -> y.coat(0, 99, 99, 99), Bounds.STATE);
        b.refused("coat(3, 0, 0, 0)", Bounds::bare, y -> y.coat(3, 0, 0, 0), Bounds.OUTSIDE);
        b.refused("coat(0, -1, 0, 0)", Bounds::bare, y -> y.coat(0, -1, 0, 0), Bounds.OUTSIDE);
    }

    private static void ofCoatBounds() {
        b.says("Of a COAT: its kind (what -1), a BAND (0 .. 2). UNKNOWN; OUTSIDE.");
        b.refused("ofCoat(0, -1)", Bounds::bare, x -> x.ofCoat(0, -1), Bounds.UNKNOWN);
        for (int k : new int[] {-1, 3, 6, Bounds.BIG, Bounds.SMALL}) {
            b.refused("ofCoat(" + k + ", 0)", Bounds::busy, x -> x.ofCoat(k, 0), Bounds.UNKNOWN);
            b.refused("ofCoat(" + k + ", 3)", Bounds::busy, x -> x.ofCoat(k, 3), Bounds.UNKNOWN);
        }
        b.refused("ofCoat(6, 0)", Bounds::full, x -> x.ofCoat(6, 0), Bounds.UNKNOWN);
        for (int what : new int[] {-2, 3, Bounds.BIG, Bounds.SMALL}) {
            b.refused("ofCoat(0, " + what + ")", Bounds::busy, x -> x.ofCoat(0, what), Bounds.OUTSIDE);
            b.refused("ofCoat(2, " + what + ")", Bounds::busy, x -> x.ofCoat(2, what), Bounds.OUTSIDE);
        }
        int[][] want = {{0, 90, 90, 90}, {1, 10, 20, 30}, {2, 40, 50, 60}, {0, 11, 22, 33}, {1, 99, 0, 99}, {2, 0, 99, 0}};
        for (int k = 0; k < 6; k++) {
            int coat = k;
            for (int w = -1; w <= 2; w++) {
                int what = w;
                b.asked("ofCoat(" + k + ", " + w + ")", Bounds::full, x -> x.ofCoat(coat, what), want[k][w + 1]);
            }
        }
    }

    private static void paintBounds() {
        b.says("A CELL is painted with a COAT: which it had. UNKNOWN: CELL, COAT.");
        b.refused("paint(0, 0)", Bounds::bare, x -> x.paint(0, 0), Bounds.UNKNOWN);
        for (int c : new int[] {-1, 6, 24, Bounds.BIG, Bounds.SMALL}) {
            b.refused("paint(" + c + ", 0)", Bounds::busy, x -> x.paint(c, 0), Bounds.UNKNOWN);
        }
        for (int k : new int[] {-1, 3, 6, Bounds.BIG, Bounds.SMALL}) {
            b.refused("paint(0, " + k + ")", Bounds::busy, x -> x.paint(0, k), Bounds.UNKNOWN);
            b.refused("paint(5, " + k + ")", Bounds::busy, x -> x.paint(5, k), Bounds.UNKNOWN);
        }
        b.refused("paint(0, 6)", Bounds::full, x -> x.paint(0, 6), Bounds.UNKNOWN);
        TouchUp x = Bounds.full();
        b.is("paint(0, 5)", x.paint(0, 5), 0);
        b.is("paint(5, 5)", x.paint(5, 5), 0);
        b.is("paint(0, 0)", x.paint(0, 0), 5);
        b.is("paint(1, 1)", x.paint(1, 1), 1);
    }

    private static void freshlyPainted() {
        b.says("how much SUN and how many years of air it has had since it was painted (0 both then)");
        for (int coat = 0; coat <= 2; coat++) {
            TouchUp x = Bounds.busy();
            x.paint(3, coat);
            b.is("its COAT", x.ofCell(3, 1), coat);
            b.is("what SUN it had", x.ofCell(3, 2), 0);
            b.is("its years of air", x.ofCell(3, 3), 0);
            b.is("its SUN", x.ofCell(3, 0), 4);
            x.paint(4, coat);
            b.is("the picture before it hangs still", x.ofCell(4, 4), 1);
            x.years(2);
            b.is("what SUN it had", x.ofCell(3, 2), 8);
            b.is("its years of air", x.ofCell(3, 3), 2);
            b.is("what SUN it had behind a picture", x.ofCell(4, 2), 0);
        }
    }

    private static void backsAre(TouchUp x, int c, int first, int second, int third) {
        int[] want = {first, second, third};
        for (int band = 0; band <= 2; band++) {
            b.is("back(" + c + ", " + band + ", false)", x.back(c, band, false), want[band]);
        }
    }

    private static void sunIsCutByTen() {
        b.says("what SUN it had, times (b and 1), by 10");
        int[][] want = {{90, 90, 90}, {90, 90, 90}, {90, 90, 90}, {90, 90, 90}, {90, 90, 89}, {90, 89, 89}, {90, 89, 89}, {90, 89, 88},
            {90, 89, 88}, {90, 89, 88}, {89, 88, 87}, {89, 88, 87}};
        for (int n = 0; n < want.length; n++) {
            TouchUp x = Due.walled("w12;10");
            x.years(n);
            backsAre(x, 0, want[n][0], want[n][1], want[n][2]);
            backsAre(x, 1, 90, 90, 90);
        }
        TouchUp x = Due.walled("w12;90");
        x.years(40);
        backsAre(x, 0, 90 - 36, 90 - 72, 0);
        backsAre(x, 1, 90, 90, 90);
    }

    private static void smokeIsCutByFive() {
        b.says("its years of air times SMOKE (0 .. 9; as it is now), by 5 (both cut)");
        int[][] lost = {{4, 1, 0}, {5, 1, 1}, {9, 1, 1}, {10, 1, 2}, {1, 4, 0}, {1, 5, 1}, {1, 9, 1}, {2, 9, 3}, {40, 9, 72}, {40, 1, 8},
            {40, 0, 0}, {0, 9, 0}};
        for (int[] l : lost) {
            TouchUp x = Bounds.dark(1, 2);
            x.set(0, l[1]);
            x.years(l[0]);
            backsAre(x, 1, 90 - l[2], 90 - l[2], 90 - l[2]);
        }
        TouchUp x = Bounds.dark(1, 2);
        x.years(40);
        for (int smoke : new int[] {9, 0, 5}) {
            x.set(0, smoke);
            backsAre(x, 0, 90 - 8 * smoke, 90 - 8 * smoke, 90 - 8 * smoke);
        }
    }

    private static void bothAreCutByThemselves() {
        b.says("by 5 (both cut)");
        TouchUp x = Due.walled("w12;10");
        x.set(0, 1);
        x.years(9);
        // 0.9 and 1.8 would be 2 together; 1.8 and 1.8 would be 3; 2.7 and 1.8 would be 4.
        backsAre(x, 0, 89, 88, 87);
    }

    private static void aFastOneLosesHalfOfBoth() {
        b.says("of a FAST one half of both together (cut)");
        int[][] lost = {{4, 0}, {5, 0}, {9, 0}, {10, 1}, {15, 1}, {19, 1}, {20, 2}, {40, 4}};
        for (int[] l : lost) {
            TouchUp x = Bounds.dark(1, 2);
            x.coat(2, 90, 90, 90);
            x.paint(0, 1);
            x.set(0, 1);
            x.years(l[0]);
            backsAre(x, 0, 90 - l[1], 90 - l[1], 90 - l[1]);
        }
        TouchUp x = Due.walled("w12;20");
        x.coat(2, 90, 90, 90);
        x.coat(1, 90, 90, 90);
        x.paint(0, 1);
        x.set(0, 1);
        x.years(5);
        // 1 and 1: half of each by itself would be nothing; 2 and 1; 3 and 1.
        backsAre(x, 0, 89, 89, 88);
        x = Due.walled("w12;22");
        x.coat(2, 90, 90, 90);
        x.coat(1, 90, 90, 90);
        x.paint(1, 2);
        x.set(0, 1);
        x.years(5);
        // A SHINY one that is not FAST loses all of it.
        backsAre(x, 1, 88, 87, 86);
    }

    private static void whatComesBackIsNothingAtLeast() {
        b.says("that of the COAT less the LOSS, 0 at least");
        for (int more = -1; more <= 1; more++) {
            TouchUp x = Due.walled("w13;999");
            x.coat(0, 36 + more, 72 + more, 99);
            x.coat(1, 36 + more, 72 + more, 0);
            x.coat(2, 18 + more, 36 + more, 54 + more);
            x.paint(0, 1);
            x.paint(1, 2);
            x.paint(2, 3);
            x.years(40);
            int left = Math.max(0, more);
            backsAre(x, 0, left, left, 0);
            backsAre(x, 1, left, left, 0);
            backsAre(x, 2, left, left, left);
            for (int band = 0; band <= 1; band++) {
                b.is("back(0, " + band + ", true)", x.back(0, band, true), left);
                b.is("back(1, " + band + ", true)", x.back(1, band, true), left + 5);
                b.is("back(2, " + band + ", true)", x.back(2, band, true), left + 5);
            }
            x.set(0, 9);
            backsAre(x, 0, 0, 0, 0);
            backsAre(x, 2, 0, 0, 0);
        }
    }

    private static void fiveMoreFromAside() {
        b.says("of a SHINY one, a FAST one 5 more, seen from ASIDE");
        for (int kind = 0; kind <= 2; kind++) {
            TouchUp x = Bounds.dark(1, 2);
            x.coat(kind, 0, 99, 94);
            x.paint(1, 1);
            int more = kind == 0 ? 0 : 5;
            backsAre(x, 1, 0, 99, 94);
            b.is("back(1, 0, true), kind " + kind, x.back(1, 0, true), more);
            b.is("back(1, 1, true), kind " + kind, x.back(1, 1, true), 99 + more);
            b.is("back(1, 2, true), kind " + kind, x.back(1, 2, true), 94 + more);
        }
    }

    private static void backBounds() {
        b.says("What comes back of a CELL in a BAND, from ASIDE or not. UNKNOWN: CELL; OUTSIDE: BAND.");
        for (boolean aside : new boolean[] {false, true}) {
            b.refused("back(0, 0)", Bounds::bare, x -> x.back(0, 0, aside), Bounds.UNKNOWN);
            b.refused("back(0, 3)", Bounds::bare, x -> x.back(0, 3, aside), Bounds.UNKNOWN);
            for (int c : new int[] {-1, 6, 24, Bounds.BIG, Bounds.SMALL}) {
                b.refused("back(" + c + ", 0)", Bounds::busy, x -> x.back(c, 0, aside), Bounds.UNKNOWN);
                b.refused("back(" + c + ", 3)", Bounds::busy, x -> x.back(c, 3, aside), Bounds.UNKNOWN);
            }
            for (int band : new int[] {-1, 3, Bounds.BIG, Bounds.SMALL}) {
                b.refused("back(0, " + band + ")", Bounds::busy, x -> x.back(0, band, aside), Bounds.OUTSIDE);
                b.refused("back(5, " + band + ")", Bounds::busy, x -> x.back(5, band, aside), Bounds.OUTSIDE);
            }
        }
        // Of CELL 5: SUN 54, by 10: 5, 10, 16; 27 by 5: 5. Of CELL 1: SUN 18, so 1, 3, 5 and 5.
        int[] last = {80, 75, 69};
        int[] second = {4, 12, 20};
        for (int i = 0; i <= 2; i++) {
            int band = i;
            b.asked("back(5, " + i + ", false)", Bounds::busy, x -> x.back(5, band, false), last[i]);
            b.asked("back(1, " + i + ", true)", Bounds::busy, x -> x.back(1, band, true), second[i] + 5);
        }
    }

    private static void weights() {
        b.says("three weights (0 .. 9)");
        for (int v : new int[] {-1, 10, Bounds.BIG, Bounds.SMALL}) {
            b.refused("light(" + v + ", 0, 0)", Bounds::busy, x -> x.light(v, 0, 0), Bounds.OUTSIDE);
            b.refused("light(0, " + v + ", 0)", Bounds::busy, x -> x.light(0, v, 0), Bounds.OUTSIDE);
            b.refused("light(0, 0, " + v + ")", Bounds::busy, x -> x.light(0, 0, v), Bounds.OUTSIDE);
        }
        int[][] right = {{0, 0, 0}, {9, 9, 9}, {9, 0, 0}, {0, 9, 0}, {0, 0, 9}};
        for (int[] w : right) {
            TouchUp x = Bounds.busy();
            x.coat(0, 1, 10, 99);
            x.paint(0, 3);
            b.is("light(" + w[0] + ", " + w[1] + ", " + w[2] + ")", x.light(w[0], w[1], w[2]), 2);
            b.is("look(0, 2, false)", x.look(0, 2, false), w[0] + 10 * w[1] + 99 * w[2]);
        }
    }

    private static void fourLightsEver() {
        b.says("LIGHTS, 4 ever, numbered as they come");
        TouchUp x = Bounds.dark(1, 2);
        for (int l = 0; l <= 3; l++) {
            b.is("LIGHT " + l, x.light(l, 0, 9), l);
            b.is("many(3)", x.many(3), l + 1);
        }
        b.is("a fifth", x.light(0, 0, 0), Bounds.FULL);
        b.is("many(3)", x.many(3), 4);
        for (int l = 0; l <= 3; l++) {
            b.is("look(0, " + l + ", false)", x.look(0, l, false), 90 * (l + 9));
        }
        b.says("A LIGHT: its number. OUTSIDE; STATE: there is no WALL; FULL.");
        b.refused("light(9, 9, 9)", Bounds::full, y -> y.light(9, 9, 9), Bounds.FULL);
        b.refused("light(0, 0, 0)", Bounds::full, y -> y.light(0, 0, 0), Bounds.FULL);
        b.refused("light(10, 0, 0)", Bounds::full, y -> y.light(10, 0, 0), Bounds.OUTSIDE);
        b.refused("light(9, 9, 9)", Bounds::bare, y -> y.light(9, 9, 9), Bounds.STATE);
        b.refused("light(0, 0, 10)", Bounds::bare, y -> y.light(0, 0, 10), Bounds.OUTSIDE);
        b.refused("light(0, -1, 0)", Bounds::bare, y -> y.light(0, -1, 0), Bounds.OUTSIDE);
    }

    private static void lookBounds() {
        b.says("LOOK of a CELL in a LIGHT. UNKNOWN: CELL, LIGHT.");
        for (boolean aside : new boolean[] {false, true}) {
            b.refused("look(0, 0)", Bounds::bare, x -> x.look(0, 0, aside), Bounds.UNKNOWN);
            b.refused("look(0, 0)", () -> Bounds.dark(1, 2), x -> x.look(0, 0, aside), Bounds.UNKNOWN);
            for (int c : new int[] {-1, 6, 24, Bounds.BIG, Bounds.SMALL}) {
                b.refused("look(" + c + ", 0)", Bounds::busy, x -> x.look(c, 0, aside), Bounds.UNKNOWN);
            }
            for (int l : new int[] {-1, 2, 4, Bounds.BIG, Bounds.SMALL}) {
                b.refused("look(0, " + l + ")", Bounds::busy, x -> x.look(0, l, aside), Bounds.UNKNOWN);
            }
            b.refused("look(0, 4)", Bounds::full, x -> x.look(0, 4, aside), Bounds.UNKNOWN);
        }
        b.asked("look(5, 0, false)", Bounds::busy, x -> x.look(5, 0, false), 80 + 2 * 75 + 3 * 69);
        b.asked("look(5, 1, false)", Bounds::busy, x -> x.look(5, 1, false), 9 * 80 + 4 * 69);
        b.asked("look(1, 1, true)", Bounds::busy, x -> x.look(1, 1, true), 9 * 9 + 4 * 25);
    }

    private static void theLeastAndTheGreatestLook() {
        b.says("of all BANDS what comes back times the weight");
        TouchUp x = Bounds.dark(1, 2);
        x.coat(1, 99, 99, 99);
        x.coat(0, 0, 0, 0);
        x.paint(0, 1);
        x.paint(1, 2);
        x.light(9, 9, 9);
        x.light(0, 0, 0);
        b.is("the greatest", x.look(0, 0, false), 27 * 99);
        b.is("the greatest, from ASIDE", x.look(0, 0, true), 27 * 104);
        b.is("in no LIGHT at all", x.look(0, 1, true), 0);
        b.is("the least", x.look(1, 0, true), 0);
        b.says("how far LOOKS of two CELLS are apart");
        b.is("the farthest", x.unlike(0, 1, 0, true), 27 * 104);
        b.is("the farthest, the other way", x.unlike(1, 0, 0, true), 27 * 104);
        b.is("of one and the same", x.unlike(0, 0, 0, true), 0);
        b.is("in no LIGHT at all", x.unlike(0, 1, 1, true), 0);
    }

    private static void unlikeBounds() {
        b.says("UNLIKE. UNKNOWN: CELLS, LIGHT.");
        for (boolean aside : new boolean[] {false, true}) {
            b.refused("unlike(0, 0, 0)", Bounds::bare, x -> x.unlike(0, 0, 0, aside), Bounds.UNKNOWN);
            for (int c : new int[] {-1, 6, 24, Bounds.BIG, Bounds.SMALL}) {
                b.refused("unlike(" + c + ", 0, 0)", Bounds::busy, x -> x.unlike(c, 0, 0, aside), Bounds.UNKNOWN);
                b.refused("unlike(0, " + c + ", 0)", Bounds::busy, x -> x.unlike(0, c, 0, aside), Bounds.UNKNOWN);
                b.refused("unlike(" + c + ", " + c + ", 0)", Bounds::busy, x -> x.unlike(c, c, 0, aside), Bounds.UNKNOWN);
            }
            for (int l : new int[] {-1, 2, 4, Bounds.BIG, Bounds.SMALL}) {
                b.refused("unlike(0, 1, " + l + ")", Bounds::busy, x -> x.unlike(0, 1, l, aside), Bounds.UNKNOWN);
                b.refused("unlike(1, 1, " + l + ")", Bounds::busy, x -> x.unlike(1, 1, l, aside), Bounds.UNKNOWN);
            }
            b.refused("unlike(0, 1, 4)", Bounds::full, x -> x.unlike(0, 1, 4, aside), Bounds.UNKNOWN);
        }
        b.asked("unlike(5, 1, 0, false)", Bounds::busy, x -> x.unlike(5, 1, 0, false), 437 - 88);
        b.asked("unlike(1, 5, 0, true)", Bounds::busy, x -> x.unlike(1, 5, 0, true), 437 - 118);
        b.asked("unlike(5, 5, 1, true)", Bounds::busy, x -> x.unlike(5, 5, 1, true), 0);
    }

    private static void whichCellsHaveAnEdge() {
        b.says("An EDGE (of two CELLS side by side, or one above the other)");
        for (int high = 1; high <= 4; high++) {
            for (int wide = 2; wide <= 6; wide++) {
                TouchUp x = Bounds.dark(high, wide);
                x.light(0, 0, 0);
                x.set(1, 0);
                b.is("EDGES of " + high + " by " + wide, x.seen(-1), high * (wide - 1) + (high - 1) * wide);
                for (int c = 0; c < high * wide; c++) {
                    int row = c / wide;
                    int column = c % wide;
                    int want = (row > 0 ? 1 : 0) + (row < high - 1 ? 1 : 0) + (column > 0 ? 1 : 0) + (column < wide - 1 ? 1 : 0);
                    b.is("EDGES of CELL " + c + " of " + high + " by " + wide, x.seen(c), want);
                }
            }
        }
        TouchUp x = Bounds.dark(2, 3);
        x.light(1, 0, 0);
        x.coat(0, 0, 0, 0);
        x.paint(2, 1);
        b.is("the CELL at the end of a row", x.seen(2), 2);
        b.is("the first CELL of the next row", x.seen(3), 0);
    }

    private static void seenByLineOrMore() {
        b.says("is SEEN, if they are UNLIKE by LINE (0 .. 999) or more");
        int[][] bands = {{0, 0, 0}, {0, 0, 1}, {1, 0, 0}, {1, 0, 1}, {99, 53, 1}, {99, 54, 0}, {99, 54, 1}};
        int[] apart = {0, 1, 9, 10, 998, 999, 1000};
        for (int a = 0; a < bands.length; a++) {
            TouchUp x = Bounds.dark(1, 2);
            x.coat(0, 0, 0, 0);
            x.coat(0, bands[a][0], bands[a][1], bands[a][2]);
            x.paint(0, 1);
            x.paint(1, 2);
            x.light(9, 2, 1);
            b.is("unlike(0, 1, 0, false)", x.unlike(0, 1, 0, false), apart[a]);
            for (int line : new int[] {0, 1, 2, 8, 9, 10, 11, 997, 998, 999}) {
                x.set(1, line);
                b.is("seen(-1), apart by " + apart[a] + ", LINE " + line, x.seen(-1), apart[a] >= line ? 1 : 0);
                b.is("seen(1), apart by " + apart[a] + ", LINE " + line, x.seen(1), apart[a] >= line ? 1 : 0);
            }
        }
    }

    private static void seenInSomeLightFromAsideOrNot() {
        b.says("in some LIGHT, from ASIDE or not");
        for (int l = 0; l <= 3; l++) {
            TouchUp x = Bounds.dark(1, 2);
            x.coat(0, 80, 90, 90);
            x.paint(1, 1);
            for (int other = 0; other <= 3; other++) {
                b.is("seen(-1) with " + other + " LIGHTS", x.seen(-1), other > l ? 1 : 0);
                x.light(other == l ? 1 : 0, 9, 9);
            }
            b.is("seen(-1), in LIGHT " + l + " alone", x.seen(-1), 1);
            x.set(1, 11);
            b.is("seen(-1), in none", x.seen(-1), 0);
            x = Bounds.dark(1, 2);
            x.coat(1, 90, 90, 90);
            x.paint(1, 1);
            for (int other = 0; other <= 3; other++) {
                x.light(other == l ? 2 : 0, 0, 0);
            }
            b.is("seen(-1), from ASIDE in LIGHT " + l + " alone", x.seen(-1), 1);
            x.set(1, 11);
            b.is("seen(-1), from ASIDE in none", x.seen(-1), 0);
        }
        int[][] bands = {{90, 5}, {85, 5}, {95, 10}, {80, 10}, {89, 4}};
        for (int[] a : bands) {
            TouchUp x = Bounds.dark(1, 2);
            x.coat(1, a[0], 90, 90);
            x.paint(1, 1);
            x.light(1, 0, 0);
            // The plain one gives 90 either way, the shiny one 5 more from ASIDE.
            x.set(1, a[1]);
            b.is("seen(-1) by just LINE, BAND " + a[0], x.seen(-1), 1);
            x.set(1, a[1] + 1);
            b.is("seen(-1) by less than LINE, BAND " + a[0], x.seen(-1), 0);
        }
        TouchUp x = Bounds.dark(4, 6);
        x.set(1, 0);
        b.is("seen(-1) without LIGHTS, LINE 0", x.seen(-1), 0);
        b.is("seen(9) without LIGHTS, LINE 0", x.seen(9), 0);
    }

    private static void seenBounds() {
        b.says("How many EDGES are SEEN (c -1), of a CELL. UNKNOWN (c -1 without a WALL: 0).");
        b.asked("seen(-1) without a WALL", Bounds::bare, x -> x.seen(-1), 0);
        b.refused("seen(0) without a WALL", Bounds::bare, x -> x.seen(0), Bounds.UNKNOWN);
        b.refused("seen(-2) without a WALL", Bounds::bare, x -> x.seen(-2), Bounds.UNKNOWN);
        for (int c : new int[] {-2, 6, 24, Bounds.BIG, Bounds.SMALL}) {
            b.refused("seen(" + c + ")", Bounds::busy, x -> x.seen(c), Bounds.UNKNOWN);
        }
        b.refused("seen(24)", () -> Bounds.dark(4, 6), x -> x.seen(24), Bounds.UNKNOWN);
        b.asked("seen(23)", () -> Bounds.dark(4, 6), x -> x.seen(23), 0);
        TouchUp x = Bounds.busy();
        x.set(1, 0);
        b.is("seen(-1), LINE 0", x.seen(-1), 7);
        b.is("seen(0), LINE 0", x.seen(0), 2);
        b.is("seen(5), LINE 0", x.seen(5), 2);
    }
}
