/**
 * "An object is used for at most 512 calls after it has been made": every call as the 512th one, and what a call changes
 * as the 511th one, asked for by the 512th.
 */
public final class LastCallTest {
    private static final int LAST = 512;
    /** How many calls Bounds.full() makes: 22 for its SHEETS, 14 more until it is busy, 6 more until it is full. */
    private static final int OF_FULL = 42;
    private static Bounds b;
    private static int marks;

    public static void main(String[] args) {
        b = new Bounds(args);
        b.says("An object is used for at most 512 calls after it has been made; what later calls answer is free.");
        wallAndCoatsAtLast();
        looksAtLast();
        mixesAtLast();
        howFarAtLast();
        whatItWasAtLast();
        sheetsAtLast();
        partsAtLast();
        refusalsAndFaultsAtLast();
        changesAtLast();
        thirtySixWalls();
        b.end("LastCallTest");
    }

    /** As Bounds.full(), with LINE 15, after so many calls, all of which have done something; fault() is 0. */
    private static TouchUp used(int calls) {
        TouchUp x = Bounds.full();
        x.set(1, 15);
        marks = 0;
        for (int body : new int[] {3, 2, 1, 1, 4}) {
            marks = 31 * marks + body;
        }
        for (int n = OF_FULL + 1; n < calls; n++) {
            switch (n % 4) {
                case 0: x.hang(3, n % 8 == 0); break;
                case 1: x.put(1, 0, n); break;
                case 2: x.name(0); marks = 31 * marks + 4; break;
                default: x.wall(0, 0, 0, 10); break;
            }
        }
        return x;
    }

    /** After 511 calls, in YEAR 40, with no picture but before CELL 4. */
    private static TouchUp worn() {
        TouchUp x = used(LAST - 4);
        x.hang(3, false);
        x.put(1, 0, 1);
        x.as(2, 2);
        return x;
    }

    private static void last(String call, Bounds.Doing doing, long want) {
        b.is("at last " + call, doing.on(worn()), want);
    }

    private static void wallAndCoatsAtLast() {
        last("wall(0, 0, 0, 11)", x -> x.wall(0, 0, 0, 11), 6);
        last("wall(0, 0, 0, 10)", x -> x.wall(0, 0, 0, 10), -110);
        last("ofCell(4, 2)", x -> x.ofCell(4, 2), 25);
        last("ofCell(5, 2)", x -> x.ofCell(5, 2), 240);
        last("ofCell(5, 3)", x -> x.ofCell(5, 3), 40);
        last("ofCell(3, 4)", x -> x.ofCell(3, 4), 0);
        last("set(0, 9)", x -> x.set(0, 9), 3);
        last("set(1, 30)", x -> x.set(1, 30), 15);
        last("years(0)", x -> x.years(0), 40);
        last("hang(4, false)", x -> x.hang(4, false), 1);
        last("hang(4, true)", x -> x.hang(4, true), 0);
        last("ofCoat(5, 1)", x -> x.ofCoat(5, 1), 99);
        last("ofCoat(5, -1)", x -> x.ofCoat(5, -1), 2);
        last("paint(1, 0)", x -> x.paint(1, 0), 1);
        int[] many = {6, 3, 6, 4, 40, 3, 15};
        for (int w = 0; w <= 6; w++) {
            int what = w;
            last("many(" + w + ")", x -> x.many(what), many[w]);
        }
    }

    private static void looksAtLast() {
        // Of CELL 2, which is FAST: 50 less half of 24 and 24, and 5.
        last("back(2, 1, true)", x -> x.back(2, 1, true), 31);
        // Of CELL 4: 85, 82, 80. Of CELL 0: 62, 58, 54. Of CELL 1, which is SHINY, nothing.
        last("look(4, 0, false)", x -> x.look(4, 0, false), 489);
        last("look(1, 0, true)", x -> x.look(1, 0, true), 30);
        last("unlike(0, 4, 0, false)", x -> x.unlike(0, 4, 0, false), 489 - 340);
        last("seen(-1)", x -> x.seen(-1), 7);
        last("seen(1)", x -> x.seen(1), 3);
    }

    private static void mixesAtLast() {
        // Five drops of COAT 0 and one of COAT 2 give 81, 83, 85: apart by 13, 16, 9, 4 in the four LIGHTS.
        last("best(4, -1)", x -> x.best(4, -1), 16);
        last("best(4, 0)", x -> x.best(4, 0), 5);
        last("best(4, 2)", x -> x.best(4, 2), 1);
        // COATS 1 and 3: apart by 14 in LIGHT 0, by 21 in LIGHT 1.
        last("traitors(0, 1, -1)", x -> x.traitors(0, 1, -1), 1);
        last("traitors(0, 1, 0)", x -> x.traitors(0, 1, 0), 13);
        last("traitors(0, 1, 1)", x -> x.traitors(0, 1, 1), Bounds.NONE);
    }

    private static void howFarAtLast() {
        last("patch(5, 0, 0)", x -> x.patch(5, 0, 0), 6);
        last("patch(5, 0, 2)", x -> x.patch(5, 0, 2), 5);
        last("leave(4, 0)", x -> x.leave(4, 0), 100);
        // Of CELL 0 ten years on: SUN 50, 5, 10, 15; 150 by 5: 30.
        last("on(0, 0, 10)", x -> x.on(0, 0, 10), 55 + 2 * 50 + 3 * 45);
        last("on(4, 0, 40)", x -> x.on(4, 0, 40), 489);
        last("hide(0)", x -> x.hide(0), 1);
        last("hide(1)", x -> x.hide(1), 3);
    }

    private static void whatItWasAtLast() {
        // SMOKE 3 takes nothing in the first year.
        last("hung(0, 0, 2, 2, 0, 0)", x -> x.hung(0, 0, 2, 2, 0, 0), 2);
        last("hung(0, 0, 2, 2, 0, 2)", x -> x.hung(0, 0, 2, 2, 0, 2), 1);
        last("old(0, 0, 2, 2, 0)", x -> x.old(0, 0, 2, 2, 0), 3);
    }

    private static void sheetsAtLast() {
        last("sheet(3, 1, 40)", x -> x.sheet(3, 1, 40), 1);
        last("lose(0)", x -> x.lose(0), 1);
        last("lose(3)", x -> x.lose(3), 0);
        last("put(1, 4, 70000)", x -> x.put(1, 4, 70000), 1);
        last("cell(1, 0, 1)", x -> x.cell(1, 0, 1), 1);
        last("cell(1, 3, 1)", x -> x.cell(1, 3, 1), -400);
        last("copy(1, 0, 1, 1, 4)", x -> x.copy(1, 0, 1, 1, 4), 4);
    }

    private static void partsAtLast() {
        last("tell(2)", x -> x.tell(2), 180);
        last("tell(4)", x -> x.tell(4), 199);
        last("name(4)", x -> x.name(4), 4);
        last("name(5)", x -> x.name(5), 90);
        last("as(5, 1)", x -> x.as(5, 1), 1);
        last("fault()", x -> x.fault(), 0);
        TouchUp x = worn();
        b.is("at last trace()", x.trace(), marks);
    }

    private static void refusalsAndFaultsAtLast() {
        last("ofCell(6, 0)", x -> x.ofCell(6, 0), Bounds.UNKNOWN);
        last("years(1)", x -> x.years(1), Bounds.OUTSIDE);
        last("coat(0, 1, 2, 3)", x -> x.coat(0, 1, 2, 3), Bounds.FULL);
        last("mix(1, 0, 0, 0)", x -> x.mix(1, 0, 0, 0), Bounds.FULL);
        last("light(1, 2, 3)", x -> x.light(1, 2, 3), Bounds.FULL);
        last("put(3, 0, 0)", x -> x.put(3, 0, 0), Bounds.NULL);
        last("as(4, 2)", x -> x.as(4, 2), Bounds.CAST);
        last("wall(0, 0, 1, 11)", x -> x.wall(0, 0, 1, 11), Bounds.INDEX);
        last("sheet(0, 0, -1)", x -> x.sheet(0, 0, -1), Bounds.SIZE);
        last("cell(1, 5, 1)", x -> x.cell(1, 5, 1), Bounds.LOST);
        last("old(6, 0, 2, 2, 0)", x -> x.old(6, 0, 2, 2, 0), Bounds.LOST);
        TouchUp bare = new TouchUp();
        for (int n = 1; n < LAST; n++) {
            bare.lose(n % 4);
        }
        b.is("at last hide(0), without a WALL", bare.hide(0), Bounds.STATE);
    }

    private static void lastTwo(String call, Bounds.Doing doing, long want, String then, Bounds.Doing asking, long got) {
        TouchUp x = used(LAST - 4);
        x.hang(3, false);
        x.put(1, 0, 1);
        b.is("next to last " + call, doing.on(x), want);
        b.is("and at last " + then, asking.on(x), got);
    }

    private static void changesAtLast() {
        lastTwo("wall", x -> x.wall(0, 0, 0, 11), 6, "many(2)", x -> x.many(2), 1);
        lastTwo("set(0, 0)", x -> x.set(0, 0), 3, "back(0, 0, false)", x -> x.back(0, 0, false), 86);
        lastTwo("hang(4, false)", x -> x.hang(4, false), 1, "on(4, 0, 0)", x -> x.on(4, 0, 0), 489);
        lastTwo("paint(5, 5)", x -> x.paint(5, 5), 0, "look(5, 2, true)", x -> x.look(5, 2, true), 9 * 104);
        lastTwo("sheet(2, 0, 2)", x -> x.sheet(2, 0, 2), 1, "cell(2, 1, 0)", x -> x.cell(2, 1, 0), 0);
        lastTwo("lose(2)", x -> x.lose(2), 1, "put(2, 0, 0)", x -> x.put(2, 0, 0), Bounds.NULL);
        lastTwo("put(1, 4, 70000)", x -> x.put(1, 4, 70000), 1, "cell(1, 4, 1)", x -> x.cell(1, 4, 1), 4464);
        lastTwo("copy(1, 0, 1, 1, 4)", x -> x.copy(1, 0, 1, 1, 4), 4, "cell(1, 4, 1)", x -> x.cell(1, 4, 1), -400);
        lastTwo("old", x -> x.old(0, 0, 2, 0, 0), Bounds.LOST, "fault()", x -> x.fault(), 2);
        lastTwo("name(2)", x -> x.name(2), 90, "trace()", x -> x.trace(), 31 * traceOfUsed() + 5);
    }

    private static int traceOfUsed() {
        used(LAST - 4);
        return marks;
    }

    /** 14 calls for each of 36 WALLS are 504. */
    private static void thirtySixWalls() {
        TouchUp x = new TouchUp();
        int[] codes = {119, 49, 50, 59, 48, 57};
        for (int n = 1; n <= 36; n++) {
            x.sheet(n % 4, n % 3, 6);
            for (int p = 0; p < 6; p++) {
                x.put(n % 4, p, codes[p]);
            }
            b.is("WALL " + n, x.wall(n % 4, n % 3, 0, 6), 2);
            b.is("its COAT 1", x.coat(2, 90, n, 0), 1);
            b.is("its COAT 2", x.mix(1, 1, 0, 0), 2);
            b.is("its LIGHT", x.light(1, 0, 0), 0);
            b.is("its picture", x.hang(1, true), 1);
            b.is("its years", x.years(n), n);
            b.is("its TELLING", x.tell(1), 90 + 100 + 90);
        }
        b.is("many(2)", x.many(2), 3);
        b.is("ofCoat(1, 1)", x.ofCoat(1, 1), 36);
        b.is("ofCoat(2, 1)", x.ofCoat(2, 1), 63);
        b.is("ofCell(0, 3)", x.ofCell(0, 3), 36);
        b.is("ofCell(1, 3)", x.ofCell(1, 3), 0);
        b.is("hang(1, false)", x.hang(1, false), 1);
        b.is("years(4)", x.years(4), 40);
        b.is("back(1, 0, false), the 512th call", x.back(1, 0, false), 87);
    }
}
