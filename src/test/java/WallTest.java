/** Promises 1 to 6 and 34: a new object, wall, ofCell, set, years, hang, many. */
public final class WallTest {
    private static final Due due = new Due();

    public static void main(String[] args) {
        aNewObjectHasNothing();
        textsAreTakenOrTheirFirstFaultIsTold();
        textsOfEverySortAndPlace();
        wallRefusesInOrder();
        aTextMakesAllAnew();
        aWrongTextChangesNothing();
        cellsAreTold();
        smokeAndLineAreSet();
        yearsGoBy();
        picturesHang();
        manyTellsAll();
        due.end("WallTest");
    }

    private static void aNewObjectHasNothing() {
        TouchUp x = new TouchUp();
        for (int what = 0; what <= 6; what++) {
            due.is("many(" + what + ")", x.many(what), 0);
        }
        due.is("fault()", x.fault(), 0);
        due.is("trace()", x.trace(), 0);
        due.is("ofCell(0, 0)", x.ofCell(0, 0), TouchUp.UNKNOWN);
        due.is("ofCoat(0, 0)", x.ofCoat(0, 0), TouchUp.UNKNOWN);
        for (int k = 0; k < 4; k++) {
            due.is("put, nothing", x.put(k, 0, 0), -11);
            due.is("lose, nothing", x.lose(k), 0);
        }
    }

    private static void textsAreTakenOrTheirFirstFaultIsTold() {
        String[] texts = {
            "", "w", "W", "x12;00", "w0", "w1", "w5", "w4", "w;", "w11", "w12", "w16", "w17", "w1;", "w12;", "w12:", "w120",
            "w12;0", "w12;00", "w12;;0", "w12;0;", "w12;00;", "w12;000", "w12;0/", "w12;0:", "w12;09", "w22;00", "w22;00;", "w22;000",
            "w22;00;0", "w22;00;00", "w22;00;00;", "w22;00;0w", "w46;000000;000000;000000;000000", "w46;000000;000000;000000;00000",
            "w46;000000;000000;000000;0000000", "w16;123456", "w42;00;11;22;33", "w42;00;11;22 33", "ww2;00",
        };
        int[] answers = {
            -100, -101, -100, -100, -101, -102, -101, -102, -101, -102, -103, -103, -102, -102, -104, -103, -103,
            -105, 2, -104, -105, -106, -106, -105, -105, 2, -106, -107, -106,
            -108, 4, -109, -108, 24, -130,
            -131, 6, 8, -112, -101,
        };
        for (int t = 0; t < texts.length; t++) {
            due.is("wall of '" + texts[t] + "'", Due.raise(new TouchUp(), texts[t]), answers[t]);
        }
        due.is("texts and answers", texts.length, answers.length);
        TouchUp x = new TouchUp();
        x.wall(0, 0, 0, 1);
        due.is("fault() of the call ahead", x.fault(), 1);
        Due.raise(x, "w12;0");
        due.is("fault() of a wrong text", x.fault(), 0);
    }

    private static void textsOfEverySortAndPlace() {
        for (int sort = 0; sort < 3; sort++) {
            for (int sheet = 0; sheet < 4; sheet++) {
                TouchUp x = new TouchUp();
                Due.write(x, sheet, sort, 5, "w12;34w");
                due.is("wall from 5 on", x.wall(sheet, sort, 5, 6), 2);
                due.is("its sun", x.ofCell(0, 0), 3);
                due.is("its sun", x.ofCell(1, 0), 4);
                due.is("wall with one more", x.wall(sheet, sort, 5, 7), -106);
                due.is("wall from 4 on", x.wall(sheet, sort, 4, 7), -100);
                due.is("wall of a part", x.wall(sheet, sort, 5, 5), -105);
                due.is("wall of none at the end", x.wall(sheet, sort, 12, 0), -100);
                x.put(sheet, 5, 119 + 256);
                due.is("wall with a wide w", x.wall(sheet, sort, 5, 6), sort == 0 ? 2 : -100);
                x.put(sheet, 5, 119 + 65536);
                due.is("wall with a wider w", x.wall(sheet, sort, 5, 6), sort < 2 ? 2 : -100);
                x.put(sheet, 5, 119);
                x.put(sheet, 6, -207);
                due.is("wall with -207", x.wall(sheet, sort, 5, 6), sort == 0 ? 2 : -101);
            }
        }
    }

    private static void wallRefusesInOrder() {
        TouchUp x = new TouchUp();
        int big = Integer.MAX_VALUE;
        int small = Integer.MIN_VALUE;
        wallIs(x, -1, 3, -1, -1, TouchUp.UNKNOWN, 0);
        wallIs(x, 4, 3, -1, -1, TouchUp.UNKNOWN, 0);
        wallIs(x, 0, 3, -1, -1, TouchUp.OUTSIDE, 0);
        wallIs(x, 0, -1, -1, -1, TouchUp.OUTSIDE, 0);
        wallIs(x, 3, 2, -1, -1, -11, 1);
        x.sheet(3, 1, 5);
        wallIs(x, 3, 0, -1, -1, -12, 2);
        wallIs(x, 3, 2, -1, -1, -12, 2);
        wallIs(x, 3, 1, -1, -1, -14, 4);
        wallIs(x, 3, 1, 0, small, -14, 4);
        wallIs(x, 3, 1, -1, 0, -13, 3);
        wallIs(x, 3, 1, 6, 0, -13, 3);
        wallIs(x, 3, 1, 5, 0, -100, 0);
        wallIs(x, 3, 1, 5, 1, -13, 3);
        wallIs(x, 3, 1, 0, 6, -13, 3);
        wallIs(x, 3, 1, 3, 3, -13, 3);
        wallIs(x, 3, 1, -1, 3, -13, 3);
        wallIs(x, 3, 1, 1, big, -13, 3);
        wallIs(x, 3, 1, big, 1, -13, 3);
        wallIs(x, 3, 1, big, big, -13, 3);
        wallIs(x, 3, 1, small, 1, -13, 3);
        wallIs(x, 3, 7, 0, 1, TouchUp.OUTSIDE, 0);
        wallIs(x, 3, 1, 0, 5, -100, 0);
        due.is("many(0)", x.many(0), 0);
    }

    private static void wallIs(TouchUp x, int sheet, int sort, int i, int n, int want, int fault) {
        String call = "wall(" + sheet + ", " + sort + ", " + i + ", " + n + ")";
        due.is(call, x.wall(sheet, sort, i, n), want);
        due.is("fault() behind " + call, x.fault(), fault);
    }

    private static TouchUp busy() {
        TouchUp x = Due.walled("w23;123;456");
        x.coat(2, 10, 20, 30);
        x.coat(1, 11, 21, 31);
        x.light(1, 2, 3);
        x.set(0, 7);
        x.set(1, 500);
        x.hang(0, true);
        x.paint(1, 1);
        x.years(9);
        x.tell(0);
        return x;
    }

    private static void aTextMakesAllAnew() {
        TouchUp x = busy();
        due.is("wall again", Due.raise(x, "w14;9876"), 4);
        int[] all = {4, 4, 1, 0, 0, 0, 10};
        for (int what = 0; what <= 6; what++) {
            due.is("many(" + what + ") anew", x.many(what), all[what]);
        }
        for (int c = 0; c < 4; c++) {
            due.is("sun anew", x.ofCell(c, 0), 9 - c);
            for (int what = 1; what <= 4; what++) {
                due.is("ofCell(" + c + ", " + what + ") anew", x.ofCell(c, what), 0);
            }
        }
        due.is("kind of coat 0", x.ofCoat(0, -1), 0);
        for (int b = 0; b < 3; b++) {
            due.is("band of coat 0", x.ofCoat(0, b), 90);
        }
        due.is("coat 1 is gone", x.ofCoat(1, 0), TouchUp.UNKNOWN);
        due.is("light 0 is gone", x.look(0, 0, false), TouchUp.UNKNOWN);
        due.is("trace stays", x.trace(), 1);
        due.is("the sheet stays", x.cell(0, 0, 0), 119);
        for (int k = 1; k < 6; k++) {
            due.is("room for coats again", x.coat(0, 1, 1, 1), k);
        }
        for (int l = 0; l < 4; l++) {
            due.is("room for lights again", x.light(1, 1, 1), l);
        }
    }

    private static void aWrongTextChangesNothing() {
        TouchUp x = busy();
        due.is("a wrong text", Due.raise(x, "w14;987"), -107);
        int[] all = {6, 3, 3, 1, 9, 7, 500};
        for (int what = 0; what <= 6; what++) {
            due.is("many(" + what + ") as it was", x.many(what), all[what]);
        }
        due.is("picture as it was", x.ofCell(0, 4), 1);
        due.is("coat as it was", x.ofCell(1, 1), 1);
        due.is("sun had as it was", x.ofCell(1, 2), 18);
        due.is("sun as it was", x.ofCell(5, 0), 6);
    }

    private static void cellsAreTold() {
        TouchUp x = busy();
        int[][] cells = {{1, 0, 0, 0, 1}, {2, 1, 18, 9, 0}, {3, 0, 27, 9, 0}, {4, 0, 36, 9, 0}, {5, 0, 45, 9, 0}, {6, 0, 54, 9, 0}};
        for (int c = 0; c < 6; c++) {
            for (int what = 0; what <= 4; what++) {
                due.is("ofCell(" + c + ", " + what + ")", x.ofCell(c, what), cells[c][what]);
            }
            due.is("ofCell(" + c + ", 5)", x.ofCell(c, 5), TouchUp.OUTSIDE);
            due.is("ofCell(" + c + ", -1)", x.ofCell(c, -1), TouchUp.OUTSIDE);
        }
        due.is("ofCell(6, 0)", x.ofCell(6, 0), TouchUp.UNKNOWN);
        due.is("ofCell(-1, 9)", x.ofCell(-1, 9), TouchUp.UNKNOWN);
        due.is("ofCell(max, 0)", x.ofCell(Integer.MAX_VALUE, 0), TouchUp.UNKNOWN);
    }

    private static void smokeAndLineAreSet() {
        TouchUp x = new TouchUp();
        due.is("set(0, 9) without a wall", x.set(0, 9), TouchUp.STATE);
        due.is("set(1, 999) without a wall", x.set(1, 999), TouchUp.STATE);
        due.is("set(2, 0) without a wall", x.set(2, 0), TouchUp.OUTSIDE);
        due.is("set(0, 10) without a wall", x.set(0, 10), TouchUp.OUTSIDE);
        x = Due.walled("w12;00");
        due.is("set(0, 9)", x.set(0, 9), 0);
        due.is("set(0, 10)", x.set(0, 10), TouchUp.OUTSIDE);
        due.is("set(0, -1)", x.set(0, -1), TouchUp.OUTSIDE);
        due.is("set(0, 0)", x.set(0, 0), 9);
        due.is("set(1, 999)", x.set(1, 999), 10);
        due.is("set(1, 1000)", x.set(1, 1000), TouchUp.OUTSIDE);
        due.is("set(1, -1)", x.set(1, -1), TouchUp.OUTSIDE);
        due.is("set(1, 0)", x.set(1, 0), 999);
        due.is("set(1, 5)", x.set(1, 5), 0);
        due.is("set(-1, 0)", x.set(-1, 0), TouchUp.OUTSIDE);
        due.is("set(2, 0)", x.set(2, 0), TouchUp.OUTSIDE);
        due.is("many(5)", x.many(5), 0);
        due.is("many(6)", x.many(6), 5);
    }

    private static void yearsGoBy() {
        TouchUp x = new TouchUp();
        due.is("years(40) without a wall", x.years(40), TouchUp.STATE);
        due.is("years(41) without a wall", x.years(41), TouchUp.OUTSIDE);
        due.is("years(-1) without a wall", x.years(-1), TouchUp.OUTSIDE);
        x = Due.walled("w12;90");
        due.is("years(0)", x.years(0), 0);
        due.is("years(-1)", x.years(-1), TouchUp.OUTSIDE);
        due.is("years(min)", x.years(Integer.MIN_VALUE), TouchUp.OUTSIDE);
        due.is("years(max)", x.years(Integer.MAX_VALUE), TouchUp.OUTSIDE);
        due.is("years(39)", x.years(39), 39);
        due.is("years(2)", x.years(2), TouchUp.OUTSIDE);
        due.is("sun had", x.ofCell(0, 2), 351);
        due.is("years(1)", x.years(1), 40);
        due.is("years(1)", x.years(1), TouchUp.OUTSIDE);
        due.is("years(0)", x.years(0), 40);
        due.is("sun had", x.ofCell(0, 2), 360);
        due.is("air", x.ofCell(0, 3), 40);
        due.is("sun had without sun", x.ofCell(1, 2), 0);
        due.is("air without sun", x.ofCell(1, 3), 40);
    }

    private static void picturesHang() {
        TouchUp x = new TouchUp();
        due.is("hang(0, true) without a wall", x.hang(0, true), TouchUp.UNKNOWN);
        x = Due.walled("w12;35");
        due.is("hang(2, true)", x.hang(2, true), TouchUp.UNKNOWN);
        due.is("hang(-1, false)", x.hang(-1, false), TouchUp.UNKNOWN);
        due.is("hang(1, false)", x.hang(1, false), 0);
        x.years(2);
        due.is("hang(1, true)", x.hang(1, true), 1);
        due.is("hang(1, true) again", x.hang(1, true), 0);
        due.is("it hangs", x.ofCell(1, 4), 1);
        due.is("beside it none hangs", x.ofCell(0, 4), 0);
        x.years(3);
        due.is("sun had behind it", x.ofCell(1, 2), 10);
        due.is("air behind it", x.ofCell(1, 3), 2);
        due.is("sun had beside it", x.ofCell(0, 2), 15);
        due.is("hang(1, false)", x.hang(1, false), 1);
        x.years(1);
        due.is("sun had without it", x.ofCell(1, 2), 15);
        due.is("air without it", x.ofCell(1, 3), 3);
    }

    private static void manyTellsAll() {
        TouchUp x = busy();
        int[] all = {6, 3, 3, 1, 9, 7, 500};
        for (int what = 0; what <= 6; what++) {
            due.is("many(" + what + ")", x.many(what), all[what]);
        }
        due.is("many(-1)", x.many(-1), TouchUp.OUTSIDE);
        due.is("many(7)", x.many(7), TouchUp.OUTSIDE);
    }
}
