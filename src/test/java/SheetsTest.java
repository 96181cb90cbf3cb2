/** Promises 24 to 28: sheet, lose, put, cell, copy. */
public final class SheetsTest {
    private static final Due due = new Due();
    private static final int BIG = Integer.MAX_VALUE;
    private static final int SMALL = Integer.MIN_VALUE;

    public static void main(String[] args) {
        sheetsGetRows();
        sheetsAreLost();
        cellsAreCutToTheirSort();
        putIsRefused();
        cellIsRefused();
        cellsAreCopied();
        copyIsRefused();
        due.end("SheetsTest");
    }

    private static void is(TouchUp x, String call, long got, long want, int fault) {
        due.is(call, got, want);
        due.is("fault() behind " + call, x.fault(), fault);
        // A fault of a call that is not looked at, so that the next one has to make its own.
        x.sheet(0, 0, -1);
    }

    private static void sheetsGetRows() {
        TouchUp x = new TouchUp();
        is(x, "sheet(4, 3, -1)", x.sheet(4, 3, -1), TouchUp.UNKNOWN, 0);
        is(x, "sheet(-1, 0, 0)", x.sheet(-1, 0, 0), TouchUp.UNKNOWN, 0);
        is(x, "sheet(0, 3, -1)", x.sheet(0, 3, -1), TouchUp.OUTSIDE, 0);
        is(x, "sheet(0, -1, -1)", x.sheet(0, -1, -1), TouchUp.OUTSIDE, 0);
        is(x, "sheet(0, 0, 41)", x.sheet(0, 0, 41), TouchUp.OUTSIDE, 0);
        is(x, "sheet(0, 0, BIG)", x.sheet(0, 0, BIG), TouchUp.OUTSIDE, 0);
        is(x, "sheet(0, 0, -1)", x.sheet(0, 0, -1), -14, 4);
        is(x, "sheet(0, 0, SMALL)", x.sheet(0, 0, SMALL), -14, 4);
        due.is("it has nothing yet", x.lose(0), 0);
        is(x, "sheet(3, 2, 40)", x.sheet(3, 2, 40), 1, 0);
        is(x, "put(3, 39, -7)", x.put(3, 39, -7), 1, 0);
        is(x, "put(3, 40, 7)", x.put(3, 40, 7), -13, 3);
        is(x, "sheet(3, 2, -1)", x.sheet(3, 2, -1), -14, 4);
        is(x, "as it was", x.cell(3, 39, 2), -7, 0);
        is(x, "sheet(3, 1, 40)", x.sheet(3, 1, 40), 1, 0);
        is(x, "0 at first", x.cell(3, 39, 1), 0, 0);
        is(x, "of its new sort", x.cell(3, 39, 2), TouchUp.LOST, 2);
        is(x, "sheet(3, 1, 0)", x.sheet(3, 1, 0), 1, 0);
        is(x, "put(3, 0, 1)", x.put(3, 0, 1), -13, 3);
        due.is("none is not nothing", x.lose(3), 1);
    }

    private static void sheetsAreLost() {
        TouchUp x = new TouchUp();
        x.sheet(1, 0, 3);
        x.put(1, 0, 5);
        x.put(1, 3, 5);
        due.is("lose(-1)", x.lose(-1), TouchUp.UNKNOWN);
        due.is("lose(4)", x.lose(4), TouchUp.UNKNOWN);
        due.is("lose(0)", x.lose(0), 0);
        due.is("lose(1)", x.lose(1), 1);
        due.is("lose(1) again", x.lose(1), 0);
        due.is("lose names no fault", x.fault(), 3);
        due.is("put, nothing", x.put(1, 0, 1), -11);
        x.sheet(1, 0, 3);
        due.is("a new row", x.cell(1, 0, 0), 0);
    }

    private static void cellsAreCutToTheirSort() {
        int[] put = {0, 127, 128, -128, -129, 255, 256, 32767, 32768, -32769, 65535, 70000, BIG, SMALL};
        TouchUp x = new TouchUp();
        for (int sort = 0; sort < 3; sort++) {
            x.sheet(2, sort, put.length);
            for (int i = 0; i < put.length; i++) {
                due.is("put", x.put(2, i, put[i]), 1);
            }
            for (int i = 0; i < put.length; i++) {
                long want = sort == 0 ? (byte) put[i] : sort == 1 ? (short) put[i] : put[i];
                due.is("cell of " + put[i] + " as " + sort, x.cell(2, i, sort), want);
            }
        }
    }

    private static void putIsRefused() {
        TouchUp x = new TouchUp();
        is(x, "put(-1, -1, 0)", x.put(-1, -1, 0), TouchUp.UNKNOWN, 0);
        is(x, "put(4, -1, 0)", x.put(4, -1, 0), TouchUp.UNKNOWN, 0);
        is(x, "put(1, -1, 0)", x.put(1, -1, 0), -11, 1);
        x.sheet(1, 2, 2);
        is(x, "put(1, -1, 0)", x.put(1, -1, 0), -13, 3);
        is(x, "put(1, 2, 0)", x.put(1, 2, 0), -13, 3);
        is(x, "put(1, BIG, 0)", x.put(1, BIG, 0), -13, 3);
        is(x, "put(1, SMALL, 0)", x.put(1, SMALL, 0), -13, 3);
        is(x, "put(1, 1, 8)", x.put(1, 1, 8), 1, 0);
        is(x, "cell(1, 0, 2)", x.cell(1, 0, 2), 0, 0);
        is(x, "cell(1, 1, 2)", x.cell(1, 1, 2), 8, 0);
    }

    private static void cellIsRefused() {
        TouchUp x = new TouchUp();
        is(x, "cell(-1, 0, 0)", x.cell(-1, 0, 0), TouchUp.LOST, 0);
        is(x, "cell(4, 0, 0)", x.cell(4, 0, 0), TouchUp.LOST, 0);
        is(x, "cell(1, 0, 3)", x.cell(1, 0, 3), TouchUp.LOST, 0);
        is(x, "cell(1, 0, -1)", x.cell(1, 0, -1), TouchUp.LOST, 0);
        is(x, "cell(1, -1, 0)", x.cell(1, -1, 0), TouchUp.LOST, 1);
        x.sheet(1, 1, 2);
        is(x, "cell(1, -1, 0)", x.cell(1, -1, 0), TouchUp.LOST, 2);
        is(x, "cell(1, 0, 2)", x.cell(1, 0, 2), TouchUp.LOST, 2);
        is(x, "cell(1, -1, 1)", x.cell(1, -1, 1), TouchUp.LOST, 3);
        is(x, "cell(1, 2, 1)", x.cell(1, 2, 1), TouchUp.LOST, 3);
        is(x, "cell(1, BIG, 1)", x.cell(1, BIG, 1), TouchUp.LOST, 3);
        is(x, "cell(1, 1, 1)", x.cell(1, 1, 1), 0, 0);
    }

    private static TouchUp counted(int sort) {
        TouchUp x = new TouchUp();
        x.sheet(1, sort, 6);
        x.sheet(2, sort, 4);
        for (int i = 0; i < 6; i++) {
            x.put(1, i, i + 1);
        }
        return x;
    }

    private static void rowIs(TouchUp x, int k, int sort, int... want) {
        for (int i = 0; i < want.length; i++) {
            due.is("cell " + i + " of " + k, x.cell(k, i, sort), want[i]);
        }
    }

    private static void cellsAreCopied() {
        for (int sort = 0; sort < 3; sort++) {
            TouchUp x = counted(sort);
            is(x, "copy(1, 2, 2, 1, 3)", x.copy(1, 2, 2, 1, 3), 3, 0);
            rowIs(x, 2, sort, 0, 3, 4, 5);
            rowIs(x, 1, sort, 1, 2, 3, 4, 5, 6);
            is(x, "copy(1, 0, 1, 2, 4)", x.copy(1, 0, 1, 2, 4), 4, 0);
            rowIs(x, 1, sort, 1, 2, 1, 2, 3, 4);
            x = counted(sort);
            is(x, "copy(1, 2, 1, 0, 4)", x.copy(1, 2, 1, 0, 4), 4, 0);
            rowIs(x, 1, sort, 3, 4, 5, 6, 5, 6);
            is(x, "copy(1, 6, 2, 4, 0)", x.copy(1, 6, 2, 4, 0), 0, 0);
            is(x, "copy(1, 0, 1, 0, 6)", x.copy(1, 0, 1, 0, 6), 6, 0);
            rowIs(x, 1, sort, 3, 4, 5, 6, 5, 6);
        }
    }

    private static void copyIsRefused() {
        TouchUp x = counted(1);
        x.sheet(3, 0, 6);
        is(x, "copy(-1, ..)", x.copy(-1, 0, 2, 0, 1), TouchUp.UNKNOWN, 0);
        is(x, "copy(4, ..)", x.copy(4, 0, 2, 0, 1), TouchUp.UNKNOWN, 0);
        is(x, "copy(1, 0, -1, ..)", x.copy(1, 0, -1, 0, 1), TouchUp.UNKNOWN, 0);
        is(x, "copy(1, 0, 4, ..)", x.copy(1, 0, 4, 0, 1), TouchUp.UNKNOWN, 0);
        is(x, "copy from nothing", x.copy(0, -1, 1, -1, -1), -11, 1);
        is(x, "copy to nothing", x.copy(1, -1, 0, -1, -1), -11, 1);
        is(x, "copy nothing to itself", x.copy(0, 0, 0, 0, 0), -11, 1);
        is(x, "copy to another sort", x.copy(1, -1, 3, -1, -1), -12, 2);
        is(x, "copy from another sort", x.copy(3, -1, 1, -1, -1), -12, 2);
        int[][] wrong = {{-1, 0, 1}, {0, -1, 1}, {0, 0, -1}, {0, 0, 5}, {3, 0, 4}, {0, 2, 3}, {7, 0, 0}, {0, 5, 0}, {-1, 0, 0}, {0, -1, 0},
            {BIG, 0, 1}, {0, BIG, 1}, {0, 0, BIG}, {1, 1, BIG}, {BIG, BIG, BIG}, {SMALL, 0, 1}, {0, 0, SMALL}, {6, 0, 1}, {0, 4, 1}};
        for (int[] w : wrong) {
            is(x, "copy(1, " + w[0] + ", 2, " + w[1] + ", " + w[2] + ")", x.copy(1, w[0], 2, w[1], w[2]), -13, 3);
        }
        rowIs(x, 1, 1, 1, 2, 3, 4, 5, 6);
        rowIs(x, 2, 1, 0, 0, 0, 0);
    }
}
