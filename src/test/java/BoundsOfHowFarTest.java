/** Boundary cases of paragraph 4 and of promises 18 to 21: patch, leave, on, hide. */
public final class BoundsOfHowFarTest {
    private static Bounds b;

    public static void main(String[] args) {
        b = new Bounds(args);
        everyRectangle();
        thereIsNoPatch();
        patchByLine();
        patchOfAShinyWall();
        patchIsPaintedFreshly();
        patchRefusals();
        theLeastAndTheGreatestLeave();
        leaveRefusals();
        onBounds();
        beyondYearForty();
        hideTheMost();
        hideOfSeveral();
        hideRefusals();
        b.end("BoundsOfHowFarTest");
    }

    /** A WALL of COAT 0 with some CELLS of COAT 1, unlike by 90 in the one LIGHT. */
    private static TouchUp spotted(int high, int wide, int... spots) {
        TouchUp x = Bounds.dark(high, wide);
        x.coat(0, 0, 90, 90);
        x.light(1, 0, 0);
        for (int c : spots) {
            x.paint(c, 1);
        }
        return x;
    }

    private static void patchIs(TouchUp x, int c, int coat, int size, int first, int last) {
        b.is("patch(" + c + ", " + coat + ", 0)", x.patch(c, coat, 0), size);
        b.is("patch(" + c + ", " + coat + ", 1)", x.patch(c, coat, 1), first);
        b.is("patch(" + c + ", " + coat + ", 2)", x.patch(c, coat, 2), last);
    }

    private static void everyRectangle() {
        b.says("the rectangle of CELLS with that CELL in it, painted freshly, by which no EDGE of the WALL is SEEN: that of the fewest CELLS");
        for (int high = 1; high <= 4; high++) {
            for (int wide = 2; wide <= 6; wide += 2) {
                everyRectangleOf(high, wide);
            }
        }
        patchIs(spotted(4, 6), 9, 0, 1, 9, 9);
        patchIs(spotted(4, 6), 9, 1, 24, 0, 23);
        patchIs(spotted(4, 6, 0), 23, 0, 24, 0, 23);
        patchIs(spotted(4, 6, 0), 0, 0, 1, 0, 0);
        patchIs(spotted(4, 6, 23), 23, 0, 1, 23, 23);
    }

    private static void everyRectangleOf(int high, int wide) {
        for (int first = 0; first < high * wide; first++) {
            for (int last = first; last < high * wide; last++) {
                int rows = last / wide - first / wide + 1;
                int columns = last % wide - first % wide + 1;
                if (columns > 0) {
                    TouchUp x = spotted(high, wide, first, last);
                    patchIs(x, first, 0, rows * columns, first, last);
                    patchIs(x, last, 0, rows * columns, first, last);
                    int lowerLeft = last - columns + 1;
                    patchIs(x, lowerLeft, 0, rows * columns, first, last);
                    TouchUp y = spotted(high, wide, first + columns - 1, lowerLeft);
                    patchIs(y, lowerLeft, 0, rows * columns, first, last);
                }
            }
        }
    }

    private static void thereIsNoPatch() {
        b.says("its first, its last CELL (1, 2); NONE: there is none");
        for (int high = 1; high <= 4; high += 3) {
            TouchUp x = spotted(high, 6, 2);
            x.set(1, 0);
            patchIs(x, 2, 0, Bounds.NONE, Bounds.NONE, Bounds.NONE);
            patchIs(x, 0, 1, Bounds.NONE, Bounds.NONE, Bounds.NONE);
            x.set(1, 1);
            patchIs(x, 2, 0, 1, 2, 2);
            x = Bounds.dark(high, 6);
            x.set(1, 0);
            patchIs(x, 5, 0, 1, 5, 5);
            x.light(0, 0, 0);
            patchIs(x, 5, 0, Bounds.NONE, Bounds.NONE, Bounds.NONE);
        }
    }

    private static void patchByLine() {
        b.says("by which no EDGE of the WALL is SEEN");
        TouchUp x = Bounds.dark(2, 3);
        x.coat(0, 81, 90, 90);
        x.light(1, 0, 0);
        x.set(1, 10);
        patchIs(x, 4, 1, 1, 4, 4);
        x.set(1, 9);
        patchIs(x, 4, 1, 6, 0, 5);
        // From ASIDE a shiny one is unlike by 5 more.
        x = Bounds.dark(2, 3);
        x.coat(1, 90, 90, 90);
        x.light(0, 0, 0);
        x.light(1, 0, 0);
        x.set(1, 6);
        patchIs(x, 1, 1, 1, 1, 1);
        x.set(1, 5);
        patchIs(x, 1, 1, 6, 0, 5);
        // Not from ASIDE this one is unlike by 5, from ASIDE it is not.
        x = Bounds.dark(2, 3);
        x.coat(2, 85, 90, 90);
        x.light(1, 0, 0);
        x.set(1, 6);
        patchIs(x, 1, 1, 1, 1, 1);
        x.set(1, 5);
        patchIs(x, 1, 1, 6, 0, 5);
    }

    /** A shiny WALL and the same COAT, fresh, are alike from ASIDE and not, in whichever LIGHT. */
    private static void patchOfAShinyWall() {
        b.says("painted freshly, by which no EDGE of the WALL is SEEN");
        for (int l = 0; l <= 3; l++) {
            TouchUp x = Bounds.dark(1, 3);
            x.coat(1, 90, 90, 90);
            for (int c = 0; c < 3; c++) {
                x.paint(c, 1);
            }
            for (int other = 0; other <= 3; other++) {
                x.light(other == l ? 1 : 0, 0, 0);
            }
            x.set(1, 5);
            patchIs(x, 1, 1, 1, 1, 1);
            b.is("leave(1, 1)", x.leave(1, 1), 100);
            patchIs(x, 1, 0, 3, 0, 2);
            b.is("leave(1, 0)", x.leave(1, 0), 98);
            x.set(1, 6);
            patchIs(x, 1, 0, 1, 1, 1);
            b.is("leave(1, 0)", x.leave(1, 0), 100);
        }
    }

    private static void patchIsPaintedFreshly() {
        b.says("painted freshly");
        TouchUp x = Due.walled("w13;999");
        x.light(1, 0, 0);
        x.years(40);
        x.set(1, 36);
        patchIs(x, 1, 0, 3, 0, 2);
        x.set(1, 37);
        patchIs(x, 1, 0, 1, 1, 1);
        b.is("it is not painted", x.ofCell(1, 3), 40);
        // A fresh one has had no air: SMOKE takes nothing from it.
        x = Bounds.dark(1, 3);
        x.light(1, 0, 0);
        x.set(0, 9);
        x.set(1, 1);
        patchIs(x, 1, 0, 1, 1, 1);
        b.is("leave(1, 0), SMOKE 9", x.leave(1, 0), 100);
        x = Due.walled("w13;900");
        x.light(1, 0, 0);
        x.years(40);
        patchIs(x, 0, 0, 1, 0, 0);
        patchIs(x, 2, 0, 3, 0, 2);
        x.hang(0, true);
        patchIs(x, 0, 0, 1, 0, 0);
    }

    private static void patchRefusals() {
        b.says("PATCH: how many CELLS (what 0), its first, its last CELL (1, 2); NONE: there is none. UNKNOWN: CELL, COAT; OUTSIDE.");
        b.refused("patch(0, 0, 0)", Bounds::bare, x -> x.patch(0, 0, 0), Bounds.UNKNOWN);
        for (int c : new int[] {-1, 6, 24, Bounds.BIG, Bounds.SMALL}) {
            b.refused("patch(" + c + ", 0, 0)", Bounds::busy, x -> x.patch(c, 0, 0), Bounds.UNKNOWN);
            b.refused("patch(" + c + ", 0, 3)", Bounds::busy, x -> x.patch(c, 0, 3), Bounds.UNKNOWN);
        }
        for (int k : new int[] {-1, 3, 6, Bounds.BIG, Bounds.SMALL}) {
            b.refused("patch(0, " + k + ", 0)", Bounds::busy, x -> x.patch(0, k, 0), Bounds.UNKNOWN);
            b.refused("patch(0, " + k + ", -1)", Bounds::busy, x -> x.patch(0, k, -1), Bounds.UNKNOWN);
        }
        b.refused("patch(0, 6, 0)", Bounds::full, x -> x.patch(0, 6, 0), Bounds.UNKNOWN);
        for (int what : new int[] {-1, 3, Bounds.BIG, Bounds.SMALL}) {
            b.refused("patch(0, 0, " + what + ")", Bounds::busy, x -> x.patch(0, 0, what), Bounds.OUTSIDE);
            b.refused("patch(5, 5, " + what + ")", Bounds::full, x -> x.patch(5, 5, what), Bounds.OUTSIDE);
        }
        int[] want = {6, 0, 5};
        for (int w = 0; w <= 2; w++) {
            int what = w;
            b.asked("patch(5, 2, " + w + ")", Bounds::busy, x -> x.patch(5, 2, what), want[w]);
            b.asked("patch(5, 5, " + w + ")", Bounds::full, x -> x.patch(5, 5, what), want[w]);
        }
    }

    private static void theLeastAndTheGreatestLeave() {
        b.says("how many EDGES are SEEN as it is, less how many, if that CELL alone were painted with that COAT");
        b.is("leave(4, 0), all four go", spotted(3, 3, 4).leave(4, 0), 104);
        b.is("leave(4, 1), all four come", spotted(3, 3).leave(4, 1), 96);
        b.is("leave(0, 0), both go", spotted(3, 3, 0).leave(0, 0), 102);
        b.is("leave(8, 1), both come", spotted(3, 3).leave(8, 1), 98);
        b.is("leave(1, 0), the one goes", spotted(1, 2, 1).leave(1, 0), 101);
        b.is("leave(0, 1), the one comes", spotted(1, 2).leave(0, 1), 99);
        b.is("leave(0, 1), the one goes", spotted(1, 2, 1).leave(0, 1), 101);
        b.is("leave(4, 1), it is so", spotted(3, 3, 4).leave(4, 1), 100);
        b.is("leave(1, 1), one goes, two come", spotted(3, 3, 4).leave(1, 1), 99);
        TouchUp x = spotted(3, 3, 4);
        x.set(1, 0);
        b.is("leave(4, 0), LINE 0", x.leave(4, 0), 100);
        x.set(1, 90);
        b.is("leave(4, 0), LINE 90", x.leave(4, 0), 104);
        x.set(1, 91);
        b.is("leave(4, 0), LINE 91", x.leave(4, 0), 100);
        x = Bounds.dark(3, 3);
        x.coat(0, 0, 0, 0);
        x.set(1, 0);
        b.is("leave(4, 1) without LIGHTS", x.leave(4, 1), 100);
        x = Due.walled("w13;999");
        x.light(1, 0, 0);
        x.years(40);
        b.is("leave(1, 0), years on", x.leave(1, 0), 98);
        b.is("it is not painted", x.ofCell(1, 3), 40);
    }

    private static void leaveRefusals() {
        b.says("LEAVE, and 100. UNKNOWN: CELL, COAT.");
        b.refused("leave(0, 0)", Bounds::bare, x -> x.leave(0, 0), Bounds.UNKNOWN);
        for (int c : new int[] {-1, 6, 24, Bounds.BIG, Bounds.SMALL}) {
            b.refused("leave(" + c + ", 0)", Bounds::busy, x -> x.leave(c, 0), Bounds.UNKNOWN);
        }
        for (int k : new int[] {-1, 3, 6, Bounds.BIG, Bounds.SMALL}) {
            b.refused("leave(0, " + k + ")", Bounds::busy, x -> x.leave(0, k), Bounds.UNKNOWN);
        }
        b.refused("leave(0, 6)", Bounds::full, x -> x.leave(0, 6), Bounds.UNKNOWN);
        b.asked("leave(1, 1)", () -> spotted(2, 3, 1), x -> x.leave(1, 1), 100);
        b.asked("leave(1, 0)", () -> spotted(2, 3, 1), x -> x.leave(1, 0), 103);
        b.asked("leave(5, 1)", () -> spotted(2, 3, 1), x -> x.leave(5, 1), 98);
    }

    private static void onBounds() {
        b.says("LOOK of a CELL (not from ASIDE) n years (0 .. 40) on");
        for (int n : new int[] {-1, 41, Bounds.BIG, Bounds.SMALL}) {
            b.refused("on(0, 0, " + n + ")", Bounds::busy, x -> x.on(0, 0, n), Bounds.OUTSIDE);
            b.refused("on(5, 1, " + n + ")", Bounds::busy, x -> x.on(5, 1, n), Bounds.OUTSIDE);
            b.refused("on(4, 0, " + n + ")", Bounds::full, x -> x.on(4, 0, n), Bounds.OUTSIDE);
        }
        b.asked("on(5, 0, 0)", Bounds::busy, x -> x.on(5, 0, 0), 80 + 2 * 75 + 3 * 69);
        b.asked("on(1, 0, 0), shiny", Bounds::busy, x -> x.on(1, 0, 0), 4 + 2 * 12 + 3 * 20);
        // Of CELL 5: SUN 294, by 10: 29, 58, 88; 147 by 5: 29.
        b.asked("on(5, 0, 40)", Bounds::busy, x -> x.on(5, 0, 40), 90 - 58 + 2 * (90 - 87));
        // Of CELL 5 one year on: SUN 60: 6, 12, 18; 30 by 5: 6.
        b.asked("on(5, 0, 1)", Bounds::busy, x -> x.on(5, 0, 1), 78 + 2 * 72 + 3 * 66);
        // Behind the picture nothing goes on: SUN 25: 2, 5, 7; 15 by 5: 3.
        b.asked("on(4, 0, 0)", Bounds::busy, x -> x.on(4, 0, 0), 85 + 2 * 82 + 3 * 80);
        b.asked("on(4, 0, 40)", Bounds::busy, x -> x.on(4, 0, 40), 85 + 2 * 82 + 3 * 80);
        b.says("ON. UNKNOWN: CELL, LIGHT; OUTSIDE: n.");
        b.refused("on(0, 0, 0)", Bounds::bare, x -> x.on(0, 0, 0), Bounds.UNKNOWN);
        b.refused("on(0, 0, 41)", Bounds::bare, x -> x.on(0, 0, 41), Bounds.UNKNOWN);
        for (int c : new int[] {-1, 6, 24, Bounds.BIG, Bounds.SMALL}) {
            b.refused("on(" + c + ", 0, 0)", Bounds::busy, x -> x.on(c, 0, 0), Bounds.UNKNOWN);
            b.refused("on(" + c + ", 0, 41)", Bounds::busy, x -> x.on(c, 0, 41), Bounds.UNKNOWN);
        }
        for (int l : new int[] {-1, 2, 4, Bounds.BIG, Bounds.SMALL}) {
            b.refused("on(0, " + l + ", 0)", Bounds::busy, x -> x.on(0, l, 0), Bounds.UNKNOWN);
            b.refused("on(0, " + l + ", -1)", Bounds::busy, x -> x.on(0, l, -1), Bounds.UNKNOWN);
        }
        b.refused("on(0, 4, 0)", Bounds::full, x -> x.on(0, 4, 0), Bounds.UNKNOWN);
    }

    private static void beyondYearForty() {
        b.says("all hanging as it does (YEAR may go beyond 40 so)");
        TouchUp x = Due.walled("w12;94");
        x.light(1, 0, 0);
        x.light(0, 0, 1);
        x.years(40);
        b.is("on(0, 0, 40)", x.on(0, 0, 40), 90 - 72);
        b.is("on(1, 0, 40)", x.on(1, 0, 40), 90 - 32);
        b.is("on(0, 1, 0)", x.on(0, 1, 0), 0);
        b.is("on(1, 1, 40)", x.on(1, 1, 40), 0);
        x.set(0, 1);
        b.is("on(1, 0, 40), SMOKE 1", x.on(1, 0, 40), 90 - 32 - 16);
        x.set(0, 9);
        b.is("on(1, 0, 40), SMOKE 9", x.on(1, 0, 40), 0);
        b.is("YEAR as it was", x.many(4), 40);
        b.is("years(1)", x.years(1), Bounds.OUTSIDE);
        x.set(0, 0);
        x.hang(0, true);
        b.is("on(0, 0, 40) behind a picture", x.on(0, 0, 40), 90 - 36);
        x.hang(0, false);
        b.is("on(0, 0, 40) without it", x.on(0, 0, 40), 90 - 72);
    }

    private static void hideIs(TouchUp x, int cell, int edges) {
        b.is("hide(0)", x.hide(0), cell);
        b.is("hide(1)", x.hide(1), edges);
    }

    private static void hideTheMost() {
        b.says("the CELL behind a picture that would hide the most SEEN EDGES (those of that CELL)");
        hideIs(spotted(3, 3, 4), 4, 4);
        hideIs(spotted(4, 6, 23), 23, 2);
        hideIs(spotted(4, 6, 0), 0, 2);
        hideIs(spotted(3, 3, 1, 3, 5, 7), 4, 4);
        hideIs(spotted(2, 3, 4), 4, 3);
        TouchUp x = spotted(3, 3, 4);
        x.set(1, 91);
        hideIs(x, 0, 0);
        x.set(1, 90);
        hideIs(x, 4, 4);
    }

    private static void hideOfSeveral() {
        b.says("of several the least");
        hideIs(spotted(4, 6), 0, 0);
        hideIs(Bounds.dark(1, 2), 0, 0);
        hideIs(spotted(1, 2, 1), 0, 1);
        hideIs(spotted(1, 6, 2, 4), 2, 2);
        hideIs(spotted(4, 6, 10, 13), 10, 4);
        hideIs(spotted(4, 6, 10, 16), 10, 3);
        TouchUp x = spotted(2, 2);
        x.set(1, 0);
        hideIs(x, 0, 2);
        x = spotted(4, 6);
        x.set(1, 0);
        hideIs(x, 7, 4);
    }

    private static void hideRefusals() {
        b.says("HIDE: the CELL (what 0), how many EDGES (1). OUTSIDE; STATE: there is no WALL.");
        for (int what : new int[] {-1, 2, Bounds.BIG, Bounds.SMALL}) {
            b.refused("hide(" + what + ")", Bounds::bare, x -> x.hide(what), Bounds.OUTSIDE);
            b.refused("hide(" + what + ")", Bounds::busy, x -> x.hide(what), Bounds.OUTSIDE);
        }
        b.refused("hide(0)", Bounds::bare, x -> x.hide(0), Bounds.STATE);
        b.refused("hide(1)", Bounds::bare, x -> x.hide(1), Bounds.STATE);
        b.asked("hide(0)", () -> spotted(2, 3, 4), x -> x.hide(0), 4);
        b.asked("hide(1)", () -> spotted(2, 3, 4), x -> x.hide(1), 3);
    }
}
