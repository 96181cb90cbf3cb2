/** Promises 18 to 21: patch, leave, on, hide. */
public final class HowFarTest {
    private static final Due due = new Due();

    public static void main(String[] args) {
        patchesInARow();
        patchesInRowsAndColumns();
        patchesThatAreNot();
        patchesAreOfTheCoatAndFresh();
        patchesInAllLightsAndFromAside();
        leavingIsCounted();
        looksYearsOn();
        hidingTheMost();
        due.end("HowFarTest");
    }

    private static void patchIs(TouchUp x, int c, int coat, int size, int first, int last) {
        String call = "patch(" + c + ", " + coat + ", ";
        due.is(call + "0)", x.patch(c, coat, 0), size);
        due.is(call + "1)", x.patch(c, coat, 1), first);
        due.is(call + "2)", x.patch(c, coat, 2), last);
        due.is(call + "3)", x.patch(c, coat, 3), TouchUp.OUTSIDE);
        due.is(call + "-1)", x.patch(c, coat, -1), TouchUp.OUTSIDE);
    }

    private static TouchUp spotted(String text, int... spots) {
        TouchUp x = Due.walled(text);
        x.coat(0, 50, 50, 50);
        x.light(1, 0, 0);
        for (int spot : spots) {
            x.paint(spot, 1);
        }
        return x;
    }

    private static void patchesInARow() {
        TouchUp x = spotted("w13;000", 1);
        patchIs(x, 1, 0, 1, 1, 1);
        patchIs(x, 0, 0, 2, 0, 1);
        patchIs(x, 2, 0, 2, 1, 2);
        patchIs(x, 1, 1, 3, 0, 2);
        due.is("seen(-1) as it was", x.seen(-1), 2);
        due.is("coat as it was", x.ofCell(1, 1), 1);
        due.is("patch(3, 0, 9)", x.patch(3, 0, 9), TouchUp.UNKNOWN);
        due.is("patch(-1, 0, 0)", x.patch(-1, 0, 0), TouchUp.UNKNOWN);
        due.is("patch(0, 2, 9)", x.patch(0, 2, 9), TouchUp.UNKNOWN);
        due.is("patch(0, -1, 0)", x.patch(0, -1, 0), TouchUp.UNKNOWN);
    }

    private static void patchesInRowsAndColumns() {
        patchIs(spotted("w33;000;000;000", 0, 8), 4, 0, 9, 0, 8);
        patchIs(spotted("w33;000;000;000", 0, 4), 4, 0, 4, 0, 4);
        patchIs(spotted("w33;000;000;000", 2), 4, 0, 4, 1, 5);
        patchIs(spotted("w33;000;000;000", 3), 4, 0, 2, 3, 4);
        patchIs(spotted("w33;000;000;000", 7), 4, 0, 2, 4, 7);
        patchIs(spotted("w33;000;000;000", 5), 0, 0, 6, 0, 5);
        patchIs(spotted("w33;000;000;000", 7), 0, 0, 6, 0, 7);
        patchIs(spotted("w46;000000;000000;000000;000000", 0), 23, 0, 24, 0, 23);
        patchIs(spotted("w46;000000;000000;000000;000000", 9, 20), 14, 0, 6, 8, 21);
    }

    private static void patchesThatAreNot() {
        TouchUp x = spotted("w13;000", 1);
        x.set(1, 0);
        patchIs(x, 1, 0, TouchUp.NONE, TouchUp.NONE, TouchUp.NONE);
        x = Due.walled("w13;000");
        x.set(1, 0);
        patchIs(x, 1, 0, 1, 1, 1);
        patchIs(spotted("w13;000", 1), 1, 0, 1, 1, 1);
        // By line 1 even the spot's own coat, on it alone, leaves its edges seen.
        x = spotted("w23;000;000", 1);
        x.set(1, 1);
        patchIs(x, 1, 1, 6, 0, 5);
        patchIs(x, 1, 0, 1, 1, 1);
    }

    private static void patchesAreOfTheCoatAndFresh() {
        TouchUp x = Due.walled("w13;900");
        x.coat(1, 90, 90, 90);
        x.light(1, 0, 0);
        x.years(20);
        // Cell 0 has lost 18, the others nothing: fresh it is like them.
        patchIs(x, 0, 0, 1, 0, 0);
        due.is("cell 0 as it was", x.ofCell(0, 2), 180);
        x.set(1, 5);
        // A shiny one is unlike by 5 from aside.
        patchIs(x, 0, 1, 3, 0, 2);
        x.set(1, 6);
        patchIs(x, 0, 1, 1, 0, 0);
    }

    private static void patchesInAllLightsAndFromAside() {
        TouchUp x = Due.walled("w13;000");
        x.coat(0, 90, 90, 70);
        x.coat(1, 80, 90, 90);
        x.light(1, 0, 0);
        x.light(0, 0, 1);
        // Coat 1 is unlike in the second light alone.
        patchIs(x, 1, 1, 3, 0, 2);
        due.is("leave(1, 1)", x.leave(1, 1), 98);
        due.is("leave(0, 1)", x.leave(0, 1), 99);
        // Coat 2 is unlike by 10 in the first one, from aside by 5.
        patchIs(x, 1, 2, 3, 0, 2);
        due.is("leave(1, 2)", x.leave(1, 2), 98);
        x.set(1, 11);
        patchIs(x, 1, 2, 1, 1, 1);
        due.is("leave(1, 2)", x.leave(1, 2), 100);
        x = Due.walled("w13;999");
        x.light(1, 1, 1);
        x.years(1);
        x.set(0, 9);
        x.set(1, 6);
        // All have lost 0, 1, 2 by sun and 1 in each band by smoke: 6 in all; what is painted has not.
        patchIs(x, 1, 0, 3, 0, 2);
        due.is("leave(1, 0)", x.leave(1, 0), 98);
        x.set(1, 7);
        patchIs(x, 1, 0, 1, 1, 1);
        due.is("leave(1, 0)", x.leave(1, 0), 100);
    }

    private static void leavingIsCounted() {
        TouchUp x = spotted("w33;000;000;000", 4);
        due.is("leave(4, 0)", x.leave(4, 0), 104);
        due.is("leave(4, 1)", x.leave(4, 1), 100);
        due.is("leave(0, 0)", x.leave(0, 0), 100);
        due.is("leave(0, 1)", x.leave(0, 1), 98);
        due.is("leave(1, 1)", x.leave(1, 1), 99);
        due.is("seen(-1) as it was", x.seen(-1), 4);
        due.is("leave(9, 0)", x.leave(9, 0), TouchUp.UNKNOWN);
        due.is("leave(-1, 0)", x.leave(-1, 0), TouchUp.UNKNOWN);
        due.is("leave(0, 2)", x.leave(0, 2), TouchUp.UNKNOWN);
        due.is("leave(0, -1)", x.leave(0, -1), TouchUp.UNKNOWN);
        x.set(1, 0);
        due.is("leave(4, 0) by line 0", x.leave(4, 0), 100);
        due.is("leave without a wall", new TouchUp().leave(0, 0), TouchUp.UNKNOWN);
    }

    private static void looksYearsOn() {
        TouchUp x = Due.walled("w13;790");
        x.light(1, 2, 3);
        x.set(0, 5);
        x.years(7);
        due.is("on(0, 0, 0)", x.on(0, 0, 0), 434);
        due.is("on(0, 0, 3)", x.on(0, 0, 3), 382);
        due.is("it is not on yet", x.look(0, 0, false), 434);
        due.is("many(4)", x.many(4), 7);
        x.hang(0, true);
        due.is("on(0, 0, 3) behind a picture", x.on(0, 0, 3), 434);
        due.is("on(0, 0, 41)", x.on(0, 0, 41), TouchUp.OUTSIDE);
        due.is("on(0, 0, -1)", x.on(0, 0, -1), TouchUp.OUTSIDE);
        due.is("on(3, 0, -1)", x.on(3, 0, -1), TouchUp.UNKNOWN);
        due.is("on(-1, 0, 0)", x.on(-1, 0, 0), TouchUp.UNKNOWN);
        due.is("on(0, 1, 41)", x.on(0, 1, 41), TouchUp.UNKNOWN);
        due.is("on(0, -1, 0)", x.on(0, -1, 0), TouchUp.UNKNOWN);
        x.years(33);
        x.set(0, 1);
        due.is("on(2, 0, 40), in year 80", x.on(2, 0, 40), 6 * (90 - 16));
        due.is("on(1, 0, 40), all gone but some", x.on(1, 0, 40), 90 - 72 - 16);
        x.coat(1, 50, 50, 50);
        x.paint(2, 1);
        due.is("on(2, 0, 5), not from aside", x.on(2, 0, 5), 6 * 49);
    }

    private static void hidingTheMost() {
        TouchUp x = new TouchUp();
        due.is("hide(0) without a wall", x.hide(0), TouchUp.STATE);
        due.is("hide(2) without a wall", x.hide(2), TouchUp.OUTSIDE);
        due.is("hide(-1) without a wall", x.hide(-1), TouchUp.OUTSIDE);
        hideIs(spotted("w33;000;000;000", 4), 4, 4);
        hideIs(spotted("w33;000;000;000"), 0, 0);
        hideIs(Due.walled("w12;00"), 0, 0);
        hideIs(spotted("w33;000;000;000", 3, 5), 3, 3);
        hideIs(spotted("w33;000;000;000", 8), 8, 2);
        hideIs(spotted("w33;000;000;000", 1, 3, 5, 7), 4, 4);
        x = spotted("w33;000;000;000", 4);
        x.hang(4, true);
        hideIs(x, 4, 4);
    }

    private static void hideIs(TouchUp x, int cell, int edges) {
        due.is("hide(0)", x.hide(0), cell);
        due.is("hide(1)", x.hide(1), edges);
        due.is("hide(2)", x.hide(2), TouchUp.OUTSIDE);
        due.is("hide(-1)", x.hide(-1), TouchUp.OUTSIDE);
    }
}
