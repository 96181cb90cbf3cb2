import java.math.BigInteger;

/** Boundary cases of paragraph 6's TELLING, of the FAULTS in Terms and of promises 29 to 33: tell, name, as, trace, fault. */
public final class BoundsOfPartsTest {
    private static Bounds b;

    public static void main(String[] args) {
        b = new Bounds(args);
        tellBounds();
        theLeastAndTheGreatestTelling();
        nameBounds();
        asBounds();
        traceAtFirst();
        traceWraps();
        refusedCallsLeaveNoTrace();
        faultAheadOfAny();
        faultIsLeftByCallsThatNameNone();
        faultIsMadeAnewByCallsThatNameOne();
        faultIsNoughtOfARefusedCall();
        everyFaultOfEveryCall();
        theSameCallTwice();
        b.end("BoundsOfPartsTest");
    }

    private static void tellBounds() {
        b.says("TELLING of a COAT. UNKNOWN.");
        b.refused("tell(0)", Bounds::bare, x -> x.tell(0), Bounds.UNKNOWN);
        for (int k : new int[] {-1, 3, 6, Bounds.BIG, Bounds.SMALL}) {
            b.refused("tell(" + k + ")", Bounds::busy, x -> x.tell(k), Bounds.UNKNOWN);
        }
        b.refused("tell(6)", Bounds::full, x -> x.tell(6), Bounds.UNKNOWN);
        int[] want = {90, 110, 180, 11, 199, 100};
        for (int k = 0; k < 6; k++) {
            b.is("tell(" + k + ")", Bounds.full().tell(k), want[k]);
        }
    }

    private static void theLeastAndTheGreatestTelling() {
        b.says("COAT (1): its first BAND. SHINY (2): what COAT's gives, and 100. FAST (3): what SHINY's gives, and what COAT's gives"
            + " (SHINY's left out).");
        int[][] want = {{0, 99}, {100, 199}, {100, 298}};
        int[] marks = {1, 2 * 31 + 1, ((3 * 31 + 2) * 31 + 1) * 31 + 1};
        for (int kind = 0; kind <= 2; kind++) {
            for (int most = 0; most <= 1; most++) {
                TouchUp x = Bounds.dark(1, 2);
                x.coat(kind, 99 * most, 99 - 99 * most, 50);
                b.is("tell(1) of kind " + kind, x.tell(1), want[kind][most]);
                b.is("trace() behind it", x.trace(), marks[kind]);
            }
        }
    }

    private static void nameBounds() {
        b.says("How it is NAMED. UNKNOWN.");
        b.refused("name(0)", Bounds::bare, x -> x.name(0), Bounds.UNKNOWN);
        for (int k : new int[] {-1, 3, 6, Bounds.BIG, Bounds.SMALL}) {
            b.refused("name(" + k + ")", Bounds::busy, x -> x.name(k), Bounds.UNKNOWN);
        }
        b.refused("name(6)", Bounds::full, x -> x.name(6), Bounds.UNKNOWN);
        b.says("NAMED by a lent body (4): its number; FAST ones have their own (5): 90.");
        int[] want = {0, 1, 90, 3, 4, 90};
        for (int k = 0; k < 6; k++) {
            TouchUp x = Bounds.full();
            int was = x.trace();
            b.is("name(" + k + ")", x.name(k), want[k]);
            b.is("trace() behind it", x.trace(), 31 * was + (want[k] == 90 ? 5 : 4));
        }
    }

    private static void asBounds() {
        b.says("A COAT, taken as one of a kind: 1. UNKNOWN; OUTSIDE; CAST: it is none (each is a COAT, too; a FAST one is SHINY).");
        b.failed("as(0, 0)", Bounds::bare, x -> x.as(0, 0), Bounds.UNKNOWN);
        b.failed("as(0, 3)", Bounds::bare, x -> x.as(0, 3), Bounds.UNKNOWN);
        for (int k : new int[] {-1, 3, 6, Bounds.BIG, Bounds.SMALL}) {
            b.failed("as(" + k + ", 0)", Bounds::busy, x -> x.as(k, 0), Bounds.UNKNOWN);
            b.failed("as(" + k + ", 3)", Bounds::busy, x -> x.as(k, 3), Bounds.UNKNOWN);
        }
        b.failed("as(6, 0)", Bounds::full, x -> x.as(6, 0), Bounds.UNKNOWN);
        for (int kind : new int[] {-1, 3, Bounds.BIG, Bounds.SMALL}) {
            for (int k = 0; k <= 2; k++) {
                int coat = k;
                b.failed("as(" + k + ", " + kind + ")", Bounds::busy, x -> x.as(coat, kind), Bounds.OUTSIDE);
            }
        }
        int[][] want = {{1, Bounds.CAST, Bounds.CAST}, {1, 1, Bounds.CAST}, {1, 1, 1}};
        for (int k = 0; k < 6; k++) {
            int coat = k;
            for (int i = 0; i <= 2; i++) {
                int kind = i;
                b.failed("as(" + k + ", " + i + ")", Bounds::full, x -> x.as(coat, kind), want[k % 3][i]);
            }
        }
    }

    private static void traceAtFirst() {
        b.says("(an int that wraps, 0 at first, becomes 31 times it and the number)");
        TouchUp x = new TouchUp();
        b.is("trace()", x.trace(), 0);
        b.is("trace() again", x.trace(), 0);
        Due.raise(x, "w12;00");
        b.is("trace() of a WALL", x.trace(), 0);
        x.tell(0);
        b.is("trace() behind tell(0)", x.trace(), 1);
        x.tell(0);
        b.is("trace() behind tell(0) again", x.trace(), 32);
        Due.raise(x, "w12;00");
        b.is("trace() of a new WALL", x.trace(), 32);
        b.asked("trace()", Bounds::bare, y -> y.trace(), 0);
        b.asked("trace()", Bounds::busy, y -> y.trace(), ((((3 * 31 + 2) * 31 + 1) * 31) + 1) * 31 + 4);
    }

    private static void traceWraps() {
        b.says("an int that wraps");
        TouchUp x = Bounds.dark(1, 2);
        // 1 + 31 + .. + 31^6 is 917087137; 31 times it and 1 is 28429701248, which is -1635069824 as an int.
        for (int n = 0; n < 7; n++) {
            x.tell(0);
        }
        b.is("trace() behind seven", x.trace(), 917087137);
        x.tell(0);
        b.is("trace() behind eight", x.trace(), -1635069824);
        BigInteger all = BigInteger.valueOf(-1635069824);
        for (int n = 0; n < 200; n++) {
            x.name(0);
            all = all.multiply(BigInteger.valueOf(31)).add(BigInteger.valueOf(4));
            b.is("trace() behind name(0), " + n, x.trace(), all.intValue());
        }
    }

    private static void refusedCallsLeaveNoTrace() {
        b.says("they change nothing");
        TouchUp x = Bounds.full();
        int was = x.trace();
        x.tell(6);
        x.tell(-1);
        x.name(6);
        x.name(-1);
        x.as(0, 2);
        x.as(2, 1);
        x.ofCoat(2, -1);
        x.paint(0, 2);
        b.is("trace()", x.trace(), was);
    }

    private static void faultAheadOfAny() {
        b.says("(0 ahead of any)");
        TouchUp x = new TouchUp();
        b.is("fault()", x.fault(), 0);
        x.lose(0);
        x.many(0);
        x.ofCell(0, 0);
        b.is("fault() ahead of any that names one", x.fault(), 0);
        x.put(0, 0, 0);
        b.is("fault()", x.fault(), 1);
        b.is("fault() again", x.fault(), 1);
    }

    private static void stays(String call, Bounds.Doing doing, long want) {
        for (int before : new int[] {1, 4}) {
            TouchUp x = Bounds.busy();
            if (before == 1) {
                x.put(3, 0, 0);
            } else {
                x.sheet(3, 0, -1);
            }
            b.is(call, doing.on(x), want);
            b.is("fault() behind " + call, x.fault(), before);
        }
    }

    /** Those that are refused or only ask are looked at in the tests of their promises. */
    private static void faultIsLeftByCallsThatNameNone() {
        b.says("The FAULT of the latest call that names one");
        stays("set(0, 4)", x -> x.set(0, 4), 3);
        stays("set(1, 4)", x -> x.set(1, 4), 25);
        stays("years(1)", x -> x.years(1), 10);
        stays("hang(0, true)", x -> x.hang(0, true), 1);
        stays("hang(4, false)", x -> x.hang(4, false), 1);
        stays("coat(0, 1, 2, 3)", x -> x.coat(0, 1, 2, 3), 3);
        stays("paint(0, 2)", x -> x.paint(0, 2), 0);
        stays("light(1, 1, 1)", x -> x.light(1, 1, 1), 2);
        stays("mix(1, 1, 1, 0)", x -> x.mix(1, 1, 1, 0), 3);
        stays("lose(0)", x -> x.lose(0), 1);
        stays("tell(0)", x -> x.tell(0), 90);
        stays("name(2)", x -> x.name(2), 90);
        stays("trace()", x -> x.trace() == 0 ? 1 : 0, 0);
        stays("fault()", x -> x.fault() == 0 ? 1 : 0, 0);
    }

    private static void becomes(String call, Bounds.Doing doing, long want, int fault) {
        for (int before : new int[] {1, 4}) {
            TouchUp x = Bounds.busy();
            if (before == 1) {
                x.put(3, 0, 0);
            } else {
                x.sheet(3, 0, -1);
            }
            b.is(call, doing.on(x), want);
            b.is("fault() behind " + call, x.fault(), fault);
        }
    }

    private static void faultIsMadeAnewByCallsThatNameOne() {
        b.says("0: it came to none, or was refused");
        becomes("wall(0, 0, 0, 11)", x -> x.wall(0, 0, 0, 11), 6, 0);
        becomes("wall(0, 0, 0, 10)", x -> x.wall(0, 0, 0, 10), -110, 0);
        becomes("hung(0, 0, 2, 2, 0, 0)", x -> x.hung(0, 0, 2, 2, 0, 0), 2, 0);
        becomes("hung(1, 0, 2, 2, 0, 1)", x -> x.hung(1, 0, 2, 2, 0, 1), Bounds.NONE, 0);
        becomes("old(0, 0, 2, 2, 0)", x -> x.old(0, 0, 2, 2, 0), 3, 0);
        becomes("sheet(3, 0, 0)", x -> x.sheet(3, 0, 0), 1, 0);
        becomes("put(0, 0, 1)", x -> x.put(0, 0, 1), 1, 0);
        becomes("cell(0, 0, 0)", x -> x.cell(0, 0, 0), 119, 0);
        becomes("copy(0, 0, 0, 1, 2)", x -> x.copy(0, 0, 0, 1, 2), 2, 0);
        becomes("as(2, 2)", x -> x.as(2, 2), 1, 0);
    }

    private static void faultIsNoughtOfARefusedCall() {
        b.says("they change nothing (but fault(), of a call that names FAULTS)");
        becomes("wall(4, 0, 0, 11)", x -> x.wall(4, 0, 0, 11), Bounds.UNKNOWN, 0);
        becomes("wall(0, 3, 0, 11)", x -> x.wall(0, 3, 0, 11), Bounds.OUTSIDE, 0);
        becomes("hung(3, ..)", x -> x.hung(3, 0, 2, 2, 0, 0), Bounds.UNKNOWN, 0);
        becomes("hung(0, 10, ..)", x -> x.hung(0, 10, 2, 2, 0, 0), Bounds.OUTSIDE, 0);
        becomes("old(3, ..)", x -> x.old(3, 0, 2, 2, 0), Bounds.LOST, 0);
        becomes("old(0, 10, ..)", x -> x.old(0, 10, 2, 2, 0), Bounds.LOST, 0);
        becomes("sheet(4, 0, 1)", x -> x.sheet(4, 0, 1), Bounds.UNKNOWN, 0);
        becomes("sheet(0, 0, 41)", x -> x.sheet(0, 0, 41), Bounds.OUTSIDE, 0);
        becomes("put(4, 0, 1)", x -> x.put(4, 0, 1), Bounds.UNKNOWN, 0);
        becomes("cell(4, 0, 0)", x -> x.cell(4, 0, 0), Bounds.LOST, 0);
        becomes("cell(0, 0, 3)", x -> x.cell(0, 0, 3), Bounds.LOST, 0);
        becomes("copy(4, 0, 0, 0, 0)", x -> x.copy(4, 0, 0, 0, 0), Bounds.UNKNOWN, 0);
        becomes("as(3, 0)", x -> x.as(3, 0), Bounds.UNKNOWN, 0);
        becomes("as(0, 3)", x -> x.as(0, 3), Bounds.OUTSIDE, 0);
    }

    private static void everyFaultOfEveryCall() {
        b.says("FAULTS are the machine's: 1 NULL (there is nothing), 2 CAST (it is of another sort, kind), 3 INDEX");
        becomes("wall(3, ..)", x -> x.wall(3, 0, 0, 0), -11, 1);
        becomes("wall(1, 0, ..)", x -> x.wall(1, 0, 0, 0), -12, 2);
        becomes("wall(0, 0, 12, 0)", x -> x.wall(0, 0, 12, 0), -13, 3);
        becomes("wall(0, 0, 0, -1)", x -> x.wall(0, 0, 0, -1), -14, 4);
        becomes("hung(.., 3, ..)", x -> x.hung(0, 0, 3, 0, 0, 0), -11, 1);
        becomes("hung(.., 2, 1, ..)", x -> x.hung(0, 0, 2, 1, 0, 0), -12, 2);
        becomes("hung(.., 2, 2, 1, ..)", x -> x.hung(0, 0, 2, 2, 1, 0), -13, 3);
        becomes("old(.., 3, ..)", x -> x.old(0, 0, 3, 0, 0), Bounds.LOST, 1);
        becomes("old(.., 2, 1, ..)", x -> x.old(0, 0, 2, 1, 0), Bounds.LOST, 2);
        becomes("old(.., 2, 2, 1)", x -> x.old(0, 0, 2, 2, 1), Bounds.LOST, 3);
        becomes("put(3, 0, 0)", x -> x.put(3, 0, 0), -11, 1);
        becomes("put(2, 3, 0)", x -> x.put(2, 3, 0), -13, 3);
        becomes("cell(3, 0, 0)", x -> x.cell(3, 0, 0), Bounds.LOST, 1);
        becomes("cell(2, 0, 0)", x -> x.cell(2, 0, 0), Bounds.LOST, 2);
        becomes("cell(2, 3, 2)", x -> x.cell(2, 3, 2), Bounds.LOST, 3);
        becomes("copy(3, ..)", x -> x.copy(3, 0, 0, 0, 0), -11, 1);
        becomes("copy(.., 3, ..)", x -> x.copy(0, 0, 3, 0, 0), -11, 1);
        becomes("copy(0, 0, 1, 0, 0)", x -> x.copy(0, 0, 1, 0, 0), -12, 2);
        becomes("copy(0, 0, 0, 0, -1)", x -> x.copy(0, 0, 0, 0, -1), -13, 3);
        becomes("as(0, 1)", x -> x.as(0, 1), -12, 2);
        b.says("4 SIZE (a length below 0)");
        becomes("sheet(0, 0, -1)", x -> x.sheet(0, 0, -1), -14, 4);
    }

    private static void theSameCallTwice() {
        b.says("it answers -10 less it (LOST, where a long is answered, as for refusals) and changes nothing; fault() tells it");
        TouchUp x = Bounds.busy();
        for (int n = 0; n < 2; n++) {
            b.is("put(2, 3, 1)", x.put(2, 3, 1), -13);
            b.is("fault()", x.fault(), 3);
            b.is("old(0, 0, 2, 0, 0)", x.old(0, 0, 2, 0, 0), Bounds.LOST);
            b.is("fault()", x.fault(), 2);
            b.is("cell(3, 0, 0)", x.cell(3, 0, 0), Bounds.LOST);
            b.is("fault()", x.fault(), 1);
            b.is("sheet(2, 2, -1)", x.sheet(2, 2, -1), -14);
            b.is("fault()", x.fault(), 4);
            b.is("cell(2, 2, 2)", x.cell(2, 2, 2), 90);
            b.is("fault()", x.fault(), 0);
        }
    }
}
