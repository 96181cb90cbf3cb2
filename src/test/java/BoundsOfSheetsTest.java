/** Boundary cases of paragraph 6's SHEETS and of promises 24 to 28: sheet, lose, put, cell, copy. */
public final class BoundsOfSheetsTest {
    private static Bounds b;

    public static void main(String[] args) {
        b = new Bounds(args);
        fourSheets();
        rowsOfNoughtToForty();
        sheetRefusals();
        aNewRowIsNought();
        loseBounds();
        whatIsCutToItsSort();
        putBounds();
        cellBounds();
        copyAllAndNone();
        copyOverItself();
        copyNullAndCast();
        copyIndex();
        copyIsOfItsSort();
        b.end("BoundsOfSheetsTest");
    }

    private static void fourSheets() {
        b.says("SHEETS 0 .. 3 have nothing (at first), or a row of 0 .. 40 numbers (0 at first) of a SORT: 0 bytes, 1 shorts, 2 ints");
        for (int k : new int[] {-1, 4, Bounds.BIG, Bounds.SMALL}) {
            b.failed("sheet(" + k + ", 0, 1)", Bounds::busy, x -> x.sheet(k, 0, 1), Bounds.UNKNOWN);
            b.failed("put(" + k + ", 0, 1)", Bounds::busy, x -> x.put(k, 0, 1), Bounds.UNKNOWN);
            b.failed("cell(" + k + ", 0, 0)", Bounds::busy, x -> x.cell(k, 0, 0), Bounds.LOST, 0);
            b.failed("copy(" + k + ", 0, 0, 0, 1)", Bounds::busy, x -> x.copy(k, 0, 0, 0, 1), Bounds.UNKNOWN);
            b.failed("copy(0, 0, " + k + ", 0, 1)", Bounds::busy, x -> x.copy(0, 0, k, 0, 1), Bounds.UNKNOWN);
            b.refused("lose(" + k + ")", Bounds::busy, x -> x.lose(k), Bounds.UNKNOWN);
        }
        for (int k = 0; k <= 3; k++) {
            TouchUp x = new TouchUp();
            b.is("put(" + k + ", 0, 1), nothing", x.put(k, 0, 1), Bounds.NULL);
            b.is("sheet(" + k + ", 2, 1)", x.sheet(k, 2, 1), 1);
            b.is("put(" + k + ", 0, 1)", x.put(k, 0, 1), 1);
            for (int other = 0; other <= 3; other++) {
                b.is("cell(" + other + ", 0, 2)", x.cell(other, 0, 2), other == k ? 1 : Bounds.LOST);
                b.is("fault() behind it", x.fault(), other == k ? 0 : 1);
            }
        }
    }

    private static void rowsOfNoughtToForty() {
        b.says("a row of 0 .. 40 numbers (0 at first)");
        for (int sort = 0; sort <= 2; sort++) {
            for (int n : new int[] {0, 1, 2, 39, 40}) {
                TouchUp x = new TouchUp();
                b.is("sheet(0, " + sort + ", " + n + ")", x.sheet(0, sort, n), 1);
                b.is("fault() behind it", x.fault(), 0);
                for (int i = 0; i < n; i++) {
                    b.is("cell(0, " + i + ", " + sort + ")", x.cell(0, i, sort), 0);
                    b.is("put(0, " + i + ", -1)", x.put(0, i, -1), 1);
                }
                b.is("cell behind its end", x.cell(0, n, sort), Bounds.LOST);
                b.is("fault() behind it", x.fault(), 3);
                b.is("put behind its end", x.put(0, n, 1), Bounds.INDEX);
                b.is("cell ahead of it", x.cell(0, -1, sort), Bounds.LOST);
                b.is("put ahead of it", x.put(0, -1, 1), Bounds.INDEX);
                b.is("it has a row", x.lose(0), 1);
            }
        }
    }

    private static void sheetRefusals() {
        b.says("A SHEET gets a new row: 1. UNKNOWN; OUTSIDE: sort, n above 40; SIZE.");
        for (int n : new int[] {41, Bounds.BIG}) {
            b.failed("sheet(0, 0, " + n + ")", Bounds::busy, x -> x.sheet(0, 0, n), Bounds.OUTSIDE);
            b.failed("sheet(3, 2, " + n + ")", Bounds::bare, x -> x.sheet(3, 2, n), Bounds.OUTSIDE);
            b.failed("sheet(4, 0, " + n + ")", Bounds::busy, x -> x.sheet(4, 0, n), Bounds.UNKNOWN);
        }
        for (int n : new int[] {-1, -40, Bounds.SMALL}) {
            b.failed("sheet(0, 0, " + n + ")", Bounds::busy, x -> x.sheet(0, 0, n), Bounds.SIZE);
            b.failed("sheet(3, 2, " + n + ")", Bounds::bare, x -> x.sheet(3, 2, n), Bounds.SIZE);
            b.failed("sheet(4, 0, " + n + ")", Bounds::busy, x -> x.sheet(4, 0, n), Bounds.UNKNOWN);
            b.failed("sheet(-1, 3, " + n + ")", Bounds::busy, x -> x.sheet(-1, 3, n), Bounds.UNKNOWN);
            b.failed("sheet(0, 3, " + n + ")", Bounds::busy, x -> x.sheet(0, 3, n), Bounds.OUTSIDE);
        }
        for (int sort : new int[] {-1, 3, Bounds.BIG, Bounds.SMALL}) {
            b.failed("sheet(0, " + sort + ", 1)", Bounds::busy, x -> x.sheet(0, sort, 1), Bounds.OUTSIDE);
            b.failed("sheet(3, " + sort + ", -1)", Bounds::busy, x -> x.sheet(3, sort, -1), Bounds.OUTSIDE);
            b.failed("sheet(4, " + sort + ", 1)", Bounds::busy, x -> x.sheet(4, sort, 1), Bounds.UNKNOWN);
        }
    }

    private static void aNewRowIsNought() {
        b.says("A SHEET gets a new row: 1.");
        for (int was = 0; was <= 2; was++) {
            for (int sort = 0; sort <= 2; sort++) {
                TouchUp x = new TouchUp();
                x.sheet(1, was, 40);
                for (int i = 0; i < 40; i++) {
                    x.put(1, i, 100 + i);
                }
                x.sheet(1, sort, 3);
                b.is("cell behind the new end", x.cell(1, 3, sort), Bounds.LOST);
                x.sheet(1, sort, 40);
                for (int i = 0; i < 40; i++) {
                    b.is("cell(1, " + i + ", " + sort + ")", x.cell(1, i, sort), 0);
                }
                b.is("of its old SORT", x.cell(1, 0, was), was == sort ? 0 : Bounds.LOST);
            }
        }
        TouchUp x = new TouchUp();
        x.sheet(0, 0, 2);
        x.put(0, 0, 7);
        x.lose(0);
        x.sheet(0, 0, 2);
        b.is("cell of a row behind a lost one", x.cell(0, 0, 0), 0);
    }

    private static void loseBounds() {
        b.says("A SHEET has nothing: 1; 0: it had nothing. UNKNOWN.");
        b.asked("lose(3)", Bounds::busy, x -> x.lose(3), 0);
        for (int k = 0; k <= 2; k++) {
            TouchUp x = Bounds.busy();
            x.put(3, 0, 0);
            b.is("lose(" + k + ")", x.lose(k), 1);
            b.is("fault() as it was", x.fault(), 1);
            b.is("lose(" + k + ") again", x.lose(k), 0);
            b.is("put(" + k + ", 0, 1)", x.put(k, 0, 1), Bounds.NULL);
            b.is("cell(" + k + ", 0, 0)", x.cell(k, 0, 0), Bounds.LOST);
            b.is("fault() behind it", x.fault(), 1);
            for (int other = 0; other <= 2; other++) {
                b.is("cell(" + other + ", 0, " + other + ")", x.cell(other, 0, other) == Bounds.LOST ? 1 : 0, other == k ? 1 : 0);
            }
        }
        TouchUp x = new TouchUp();
        x.sheet(2, 1, 0);
        b.is("lose(2), an empty row", x.lose(2), 1);
        b.is("lose(2), nothing", x.lose(2), 0);
    }

    private static void whatIsCutToItsSort() {
        b.says("what comes to a cell of it is cut to its SORT");
        int[][] cut = {
            {0, 0, 0, 0}, {1, 1, 1, 1}, {-1, -1, -1, -1}, {127, 127, 127, 127}, {128, -128, 128, 128}, {-128, -128, -128, -128},
            {-129, 127, -129, -129}, {255, -1, 255, 255}, {256, 0, 256, 256}, {257, 1, 257, 257}, {32767, -1, 32767, 32767},
            {32768, 0, -32768, 32768}, {-32768, 0, -32768, -32768}, {-32769, -1, 32767, -32769}, {65535, -1, -1, 65535},
            {65536, 0, 0, 65536}, {Bounds.BIG, -1, -1, Bounds.BIG}, {Bounds.SMALL, 0, 0, Bounds.SMALL},
        };
        for (int sort = 0; sort <= 2; sort++) {
            TouchUp x = new TouchUp();
            x.sheet(0, sort, 2);
            for (int[] c : cut) {
                b.is("put(0, 1, " + c[0] + ")", x.put(0, 1, c[0]), 1);
                b.is("cell(0, 1, " + sort + ") of " + c[0], x.cell(0, 1, sort), c[1 + sort]);
                b.is("cell(0, 0, " + sort + ")", x.cell(0, 0, sort), 0);
            }
        }
    }

    private static void putBounds() {
        b.says("Cell i of a SHEET becomes v: 1. UNKNOWN; NULL; INDEX.");
        for (int i : new int[] {-1, 0, Bounds.BIG, Bounds.SMALL}) {
            b.failed("put(3, " + i + ", 1)", Bounds::busy, x -> x.put(3, i, 1), Bounds.NULL);
            b.failed("put(4, " + i + ", 1)", Bounds::busy, x -> x.put(4, i, 1), Bounds.UNKNOWN);
        }
        int[] lengths = {11, 5, 3};
        for (int k = 0; k <= 2; k++) {
            int sheet = k;
            for (int i : new int[] {-1, lengths[k], 39, 40, Bounds.BIG, Bounds.SMALL}) {
                b.failed("put(" + k + ", " + i + ", 1)", Bounds::busy, x -> x.put(sheet, i, 1), Bounds.INDEX);
            }
            for (int i = 0; i < lengths[k]; i += lengths[k] - 1) {
                TouchUp x = Bounds.busy();
                x.sheet(0, 0, -1);
                b.is("put(" + k + ", " + i + ", 77)", x.put(k, i, 77), 1);
                b.is("fault() behind it", x.fault(), 0);
                b.is("cell(" + k + ", " + i + ", " + k + ")", x.cell(k, i, k), 77);
            }
        }
    }

    private static void cellFails(int fault, int k, int i, int sort) {
        b.failed("cell(" + k + ", " + i + ", " + sort + ")", Bounds::busy, x -> x.cell(k, i, sort), Bounds.LOST, fault);
    }

    private static void cellBounds() {
        b.says("LOST: UNKNOWN, OUTSIDE: sort; FAULTS CAST (nothing is no CAST), NULL, INDEX.");
        for (int sort : new int[] {-1, 3, Bounds.BIG, Bounds.SMALL}) {
            cellFails(0, 0, 0, sort);
            cellFails(0, 3, -1, sort);
            cellFails(0, 4, 0, sort);
        }
        for (int i : new int[] {-1, 0, Bounds.BIG, Bounds.SMALL}) {
            for (int sort = 0; sort <= 2; sort++) {
                cellFails(1, 3, i, sort);
                for (int k = 0; k <= 2; k++) {
                    if (sort != k) {
                        cellFails(2, k, i, sort);
                    }
                }
            }
        }
        int[] lengths = {11, 5, 3};
        long[][] ends = {{119, 54}, {1, 5}, {90, 90}};
        for (int k = 0; k <= 2; k++) {
            int sheet = k;
            int last = lengths[k] - 1;
            for (int i : new int[] {-1, lengths[k], 39, 40, Bounds.BIG, Bounds.SMALL}) {
                cellFails(3, k, i, k);
            }
            b.failed("cell(" + k + ", 0, " + k + ")", Bounds::busy, x -> x.cell(sheet, 0, sheet), ends[k][0], 0);
            b.failed("cell(" + k + ", " + last + ", " + k + ")", Bounds::busy, x -> x.cell(sheet, last, sheet), ends[k][1], 0);
        }
        TouchUp x = new TouchUp();
        x.sheet(0, 2, 1);
        x.put(0, 0, Bounds.SMALL);
        b.is("the least int is not LOST", x.cell(0, 0, 2), Bounds.SMALL);
        b.is("fault() behind it", x.fault(), 0);
    }

    /** SHEETS 1 and 2 of a SORT: 1 .. 6 and -1 .. -4. */
    private static TouchUp counted(int sort) {
        TouchUp x = new TouchUp();
        x.sheet(1, sort, 6);
        x.sheet(2, sort, 4);
        for (int i = 0; i < 6; i++) {
            x.put(1, i, i + 1);
            x.put(2, i, -i - 1);
        }
        x.sheet(0, sort == 0 ? 1 : 0, 6);
        return x;
    }

    private static void rowIs(TouchUp x, int k, int sort, int... want) {
        for (int i = 0; i < want.length; i++) {
            b.is("cell(" + k + ", " + i + ", " + sort + ")", x.cell(k, i, sort), want[i]);
        }
    }

    private static void copyIs(TouchUp x, int k, int i, int other, int j, int n) {
        x.sheet(0, 0, -1);
        b.is("copy(" + k + ", " + i + ", " + other + ", " + j + ", " + n + ")", x.copy(k, i, other, j, n), n);
        b.is("fault() behind it", x.fault(), 0);
    }

    private static void copyAllAndNone() {
        b.says("n cells of a SHEET from i on go to another one (perhaps the same) from j on, as they were: n.");
        for (int sort = 0; sort <= 2; sort++) {
            TouchUp x = counted(sort);
            copyIs(x, 1, 0, 2, 0, 4);
            rowIs(x, 2, sort, 1, 2, 3, 4);
            x = counted(sort);
            copyIs(x, 1, 2, 2, 0, 4);
            rowIs(x, 2, sort, 3, 4, 5, 6);
            x = counted(sort);
            copyIs(x, 2, 0, 1, 2, 4);
            rowIs(x, 1, sort, 1, 2, -1, -2, -3, -4);
            rowIs(x, 2, sort, -1, -2, -3, -4);
            copyIs(x, 1, 5, 2, 3, 1);
            rowIs(x, 2, sort, -1, -2, -3, -4);
            copyIs(x, 1, 0, 2, 3, 1);
            rowIs(x, 2, sort, -1, -2, -3, 1);
            x = counted(sort);
            int[][] none = {{0, 0}, {6, 0}, {0, 4}, {6, 4}, {3, 3}};
            for (int[] c : none) {
                copyIs(x, 1, c[0], 2, c[1], 0);
            }
            rowIs(x, 1, sort, 1, 2, 3, 4, 5, 6);
            rowIs(x, 2, sort, -1, -2, -3, -4);
            x.sheet(3, sort, 0);
            copyIs(x, 3, 0, 3, 0, 0);
            copyIs(x, 3, 0, 1, 6, 0);
            copyIs(x, 1, 6, 3, 0, 0);
            b.is("copy(3, 0, 1, 0, 1)", x.copy(3, 0, 1, 0, 1), Bounds.INDEX);
            b.is("copy(1, 0, 3, 0, 1)", x.copy(1, 0, 3, 0, 1), Bounds.INDEX);
        }
    }

    private static void copyOverItself() {
        b.says("(perhaps the same) from j on, as they were");
        int[][][] cases = {
            {{0, 1, 5}, {1, 1, 2, 3, 4, 5}}, {{1, 0, 5}, {2, 3, 4, 5, 6, 6}}, {{0, 2, 4}, {1, 2, 1, 2, 3, 4}}, {{2, 0, 4}, {3, 4, 5, 6, 5, 6}},
            {{0, 0, 6}, {1, 2, 3, 4, 5, 6}}, {{0, 3, 3}, {1, 2, 3, 1, 2, 3}}, {{3, 0, 3}, {4, 5, 6, 4, 5, 6}}, {{5, 0, 1}, {6, 2, 3, 4, 5, 6}},
            {{0, 5, 1}, {1, 2, 3, 4, 5, 1}},
        };
        for (int sort = 0; sort <= 2; sort++) {
            for (int[][] c : cases) {
                TouchUp x = counted(sort);
                copyIs(x, 1, c[0][0], 1, c[0][1], c[0][2]);
                rowIs(x, 1, sort, c[1]);
            }
        }
    }

    private static void copyFails(int want, int k, int i, int other, int j, int n) {
        String call = "copy(" + k + ", " + i + ", " + other + ", " + j + ", " + n + ")";
        b.failed(call, Bounds::busy, x -> x.copy(k, i, other, j, n), want);
    }

    private static void copyNullAndCast() {
        b.says("UNKNOWN; FAULTS NULL (the first, the other), CAST (unlike SORTS), INDEX: i, j, n below 0 or beyond.");
        for (int k = 0; k <= 3; k++) {
            copyFails(Bounds.NULL, k, 0, 3, 0, 0);
            copyFails(Bounds.NULL, 3, 0, k, 0, 0);
            copyFails(Bounds.NULL, k, -1, 3, -1, -1);
            copyFails(Bounds.NULL, 3, -1, k, -1, -1);
            copyFails(Bounds.UNKNOWN, 3, -1, 4, -1, -1);
            copyFails(Bounds.UNKNOWN, -1, -1, k, -1, -1);
            for (int other = 0; other <= 2; other++) {
                if (k < 3 && k != other) {
                    copyFails(Bounds.CAST, k, 0, other, 0, 0);
                    copyFails(Bounds.CAST, k, 0, other, 0, 1);
                    copyFails(Bounds.CAST, k, -1, other, -1, -1);
                    copyFails(Bounds.CAST, k, 99, other, 99, 99);
                }
            }
        }
    }

    private static void copyIndex() {
        b.says("INDEX: i, j, n below 0 or beyond.");
        int big = Bounds.BIG;
        int small = Bounds.SMALL;
        int[][] beyond = {{-1, 0, 1}, {0, -1, 1}, {0, 0, -1}, {-1, 0, 0}, {0, -1, 0}, {12, 0, 0}, {0, 12, 0}, {0, 0, 12}, {1, 0, 11}, {0, 1, 11},
            {11, 0, 1}, {0, 11, 1}, {10, 0, 2}, {0, 10, 2}, {big, 0, 1}, {0, big, 1}, {0, 0, big}, {1, 1, big}, {big, big, big}, {big, 0, 0},
            {0, big, 0}, {small, 0, 1}, {0, small, 1}, {0, 0, small}, {small, small, small}, {small, 0, 0}, {5, 5, -1}, {1, 0, -1}, {0, 0, -11}};
        for (int[] a : beyond) {
            copyFails(Bounds.INDEX, 0, a[0], 0, a[1], a[2]);
        }
        for (int sort = 0; sort <= 2; sort++) {
            int[][] between = {{0, 0, 5}, {3, 0, 4}, {0, 1, 4}, {7, 0, 0}, {0, 5, 0}, {6, 0, 1}, {0, 4, 1}};
            for (int[] a : between) {
                TouchUp x = counted(sort);
                b.is("copy(1, " + a[0] + ", 2, " + a[1] + ", " + a[2] + ")", x.copy(1, a[0], 2, a[1], a[2]), Bounds.INDEX);
                b.is("fault() behind it", x.fault(), 3);
                rowIs(x, 1, sort, 1, 2, 3, 4, 5, 6);
                rowIs(x, 2, sort, -1, -2, -3, -4);
            }
        }
    }

    private static void copyIsOfItsSort() {
        b.says("as they were");
        int[][] ends = {{-128, 127}, {-32768, 32767}, {Bounds.SMALL, Bounds.BIG}};
        for (int sort = 0; sort <= 2; sort++) {
            TouchUp x = counted(sort);
            x.put(1, 0, ends[sort][0]);
            x.put(1, 1, ends[sort][1]);
            copyIs(x, 1, 0, 2, 2, 2);
            rowIs(x, 2, sort, -1, -2, ends[sort][0], ends[sort][1]);
        }
    }
}
