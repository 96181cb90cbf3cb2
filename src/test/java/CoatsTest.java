/** Promises 7 to 14: coat, ofCoat, paint, back, light, look, unlike, seen. */
public final class CoatsTest {
    private static final Due due = new Due();

    public static void main(String[] args) {
        coatsCome();
        cellsArePainted();
        lossesComeBackLess();
        aFastOneLosesHalfOfBothTogether();
        lightsCome();
        looksAreTold();
        edgesAreSeenByLine();
        edgesAreSeenInSomeLightOrFromAside();
        edgesAreSeenNotFromAsideAlone();
        due.end("CoatsTest");
    }

    private static void coatsCome() {
        TouchUp x = new TouchUp();
        due.is("coat(0, 99, 99, 99) without a wall", x.coat(0, 99, 99, 99), TouchUp.STATE);
        due.is("coat(3, 0, 0, 0) without a wall", x.coat(3, 0, 0, 0), TouchUp.OUTSIDE);
        x = Due.walled("w12;00");
        int[][] wrong = {{-1, 0, 0, 0}, {3, 0, 0, 0}, {0, -1, 0, 0}, {0, 100, 0, 0}, {0, 0, -1, 0}, {0, 0, 100, 0}, {0, 0, 0, -1},
            {0, 0, 0, 100}};
        for (int[] w : wrong) {
            due.is("coat, outside", x.coat(w[0], w[1], w[2], w[3]), TouchUp.OUTSIDE);
        }
        for (int k = 1; k < 6; k++) {
            due.is("coat " + k, x.coat(k % 3, 0, 99, 10 * k), k);
            due.is("many(2)", x.many(2), k + 1);
        }
        due.is("one coat more", x.coat(0, 1, 1, 1), TouchUp.FULL);
        due.is("one wrong coat more", x.coat(0, 1, 1, 100), TouchUp.OUTSIDE);
        for (int k = 1; k < 6; k++) {
            due.is("kind of coat " + k, x.ofCoat(k, -1), k % 3);
            due.is("band 0 of coat " + k, x.ofCoat(k, 0), 0);
            due.is("band 1 of coat " + k, x.ofCoat(k, 1), 99);
            due.is("band 2 of coat " + k, x.ofCoat(k, 2), 10 * k);
            due.is("ofCoat(" + k + ", 3)", x.ofCoat(k, 3), TouchUp.OUTSIDE);
            due.is("ofCoat(" + k + ", -2)", x.ofCoat(k, -2), TouchUp.OUTSIDE);
        }
        due.is("ofCoat(0, 1)", x.ofCoat(0, 1), 90);
        due.is("ofCoat(6, 9)", x.ofCoat(6, 9), TouchUp.UNKNOWN);
        due.is("ofCoat(-1, 9)", x.ofCoat(-1, 9), TouchUp.UNKNOWN);
    }

    private static void cellsArePainted() {
        TouchUp x = Due.walled("w12;45");
        x.coat(1, 1, 2, 3);
        x.years(3);
        due.is("paint(2, 0)", x.paint(2, 0), TouchUp.UNKNOWN);
        due.is("paint(-1, 0)", x.paint(-1, 0), TouchUp.UNKNOWN);
        due.is("paint(0, 2)", x.paint(0, 2), TouchUp.UNKNOWN);
        due.is("paint(0, -1)", x.paint(0, -1), TouchUp.UNKNOWN);
        due.is("sun had is kept by refusals", x.ofCell(0, 2), 12);
        due.is("paint(0, 1)", x.paint(0, 1), 0);
        due.is("its coat", x.ofCell(0, 1), 1);
        due.is("its sun had", x.ofCell(0, 2), 0);
        due.is("its air", x.ofCell(0, 3), 0);
        due.is("the other's sun had", x.ofCell(1, 2), 15);
        x.years(1);
        due.is("its sun had", x.ofCell(0, 2), 4);
        due.is("painted with the same", x.paint(0, 1), 1);
        due.is("its sun had", x.ofCell(0, 2), 0);
        x.hang(1, true);
        due.is("painted behind a picture", x.paint(1, 1), 0);
        due.is("it hangs still", x.ofCell(1, 4), 1);
    }

    private static void lossesComeBackLess() {
        TouchUp x = Due.walled("w12;79");
        x.years(7);
        x.set(0, 6);
        int[][] plain = {{78, 73, 68}, {90 - 6 - 8, 90 - 12 - 8, 90 - 18 - 8}};
        for (int c = 0; c < 2; c++) {
            for (int b = 0; b < 3; b++) {
                due.is("back(" + c + ", " + b + ", false)", x.back(c, b, false), plain[c][b]);
                due.is("back(" + c + ", " + b + ", true)", x.back(c, b, true), plain[c][b]);
            }
            due.is("back(" + c + ", 3)", x.back(c, 3, false), TouchUp.OUTSIDE);
            due.is("back(" + c + ", -1)", x.back(c, -1, true), TouchUp.OUTSIDE);
        }
        due.is("back(2, 3)", x.back(2, 3, false), TouchUp.UNKNOWN);
        due.is("back(-1, 0)", x.back(-1, 0, false), TouchUp.UNKNOWN);
        x.set(0, 0);
        due.is("back without smoke", x.back(0, 2, false), 76);
        x.hang(0, true);
        x.years(5);
        due.is("back behind a picture", x.back(0, 2, false), 76);
    }

    private static void aFastOneLosesHalfOfBothTogether() {
        TouchUp x = Due.walled("w12;79");
        x.coat(1, 50, 10, 99);
        x.coat(2, 60, 5, 70);
        x.paint(0, 2);
        x.paint(1, 1);
        due.is("fresh, from aside", x.back(1, 2, true), 104);
        x.set(0, 5);
        x.years(7);
        int[][] back = {{55, 0, 60}, {37, 0, 74}};
        for (int c = 0; c < 2; c++) {
            for (int b = 0; b < 3; b++) {
                due.is("back(" + c + ", " + b + ", false)", x.back(c, b, false), back[c][b]);
                due.is("back(" + c + ", " + b + ", true)", x.back(c, b, true), back[c][b] + 5);
            }
        }
    }

    private static void lightsCome() {
        TouchUp x = new TouchUp();
        due.is("light(9, 9, 9) without a wall", x.light(9, 9, 9), TouchUp.STATE);
        due.is("light(10, 0, 0) without a wall", x.light(10, 0, 0), TouchUp.OUTSIDE);
        x = Due.walled("w12;00");
        int[][] wrong = {{-1, 0, 0}, {10, 0, 0}, {0, -1, 0}, {0, 10, 0}, {0, 0, -1}, {0, 0, 10}};
        for (int[] w : wrong) {
            due.is("light, outside", x.light(w[0], w[1], w[2]), TouchUp.OUTSIDE);
        }
        for (int l = 0; l < 4; l++) {
            due.is("light " + l, x.light(l, 9, 0), l);
            due.is("many(3)", x.many(3), l + 1);
        }
        due.is("one light more", x.light(0, 0, 0), TouchUp.FULL);
        due.is("one wrong light more", x.light(0, 0, 10), TouchUp.OUTSIDE);
        for (int l = 0; l < 4; l++) {
            due.is("look in light " + l, x.look(1, l, false), 90 * (l + 9));
        }
    }

    private static void looksAreTold() {
        TouchUp x = Due.walled("w13;792");
        x.coat(1, 50, 10, 99);
        x.coat(2, 60, 5, 70);
        x.paint(0, 2);
        x.paint(1, 1);
        x.light(1, 2, 3);
        x.light(9, 0, 0);
        x.hang(2, true);
        x.set(0, 5);
        x.years(7);
        due.is("look(0, 0, false)", x.look(0, 0, false), 235);
        due.is("look(0, 0, true)", x.look(0, 0, true), 265);
        due.is("look(1, 0, false)", x.look(1, 0, false), 259);
        due.is("look(1, 0, true)", x.look(1, 0, true), 289);
        due.is("look(2, 0, true)", x.look(2, 0, true), 540);
        due.is("look(0, 1, false)", x.look(0, 1, false), 495);
        due.is("look(1, 1, true)", x.look(1, 1, true), 378);
        due.is("unlike(0, 1, 0, false)", x.unlike(0, 1, 0, false), 24);
        due.is("unlike(1, 0, 0, false)", x.unlike(1, 0, 0, false), 24);
        due.is("unlike(0, 1, 1, true)", x.unlike(0, 1, 1, true), 162);
        due.is("unlike(0, 2, 0, false)", x.unlike(0, 2, 0, false), 305);
        due.is("unlike(0, 2, 0, true)", x.unlike(0, 2, 0, true), 275);
        due.is("unlike(1, 1, 0, true)", x.unlike(1, 1, 0, true), 0);
        int[][] unknown = {{-1, 0}, {3, 0}, {0, -1}, {0, 2}};
        for (int[] u : unknown) {
            due.is("look, unknown", x.look(u[0], u[1], false), TouchUp.UNKNOWN);
            due.is("unlike, unknown", x.unlike(u[0], 0, u[1], false), TouchUp.UNKNOWN);
            due.is("unlike, unknown", x.unlike(0, u[0], u[1], true), TouchUp.UNKNOWN);
        }
    }

    private static void edgesAreSeenByLine() {
        TouchUp x = new TouchUp();
        due.is("seen(-1) without a wall", x.seen(-1), 0);
        due.is("seen(0) without a wall", x.seen(0), TouchUp.UNKNOWN);
        due.is("seen(-2) without a wall", x.seen(-2), TouchUp.UNKNOWN);
        x = Due.walled("w33;000;000;000");
        x.set(1, 0);
        due.is("seen(-1) without lights", x.seen(-1), 0);
        due.is("seen(4) without lights", x.seen(4), 0);
        x.light(1, 0, 0);
        due.is("seen(-1) by line 0", x.seen(-1), 12);
        int[] edgesOf = {2, 3, 2, 3, 4, 3, 2, 3, 2};
        for (int c = 0; c < 9; c++) {
            due.is("seen(" + c + ") by line 0", x.seen(c), edgesOf[c]);
        }
        due.is("seen(9)", x.seen(9), TouchUp.UNKNOWN);
        due.is("seen(-2)", x.seen(-2), TouchUp.UNKNOWN);
        x.coat(0, 77, 0, 0);
        x.paint(4, 1);
        x.set(1, 13);
        due.is("seen(-1) by just the line", x.seen(-1), 4);
        int[] touching = {0, 1, 0, 1, 4, 1, 0, 1, 0};
        for (int c = 0; c < 9; c++) {
            due.is("seen(" + c + ") by just the line", x.seen(c), touching[c]);
        }
        x.set(1, 14);
        due.is("seen(-1) by less than the line", x.seen(-1), 0);
        due.is("seen(4) by less than the line", x.seen(4), 0);
        x.hang(4, true);
        x.set(1, 13);
        due.is("seen(-1) behind a picture", x.seen(-1), 4);
    }

    private static void edgesAreSeenInSomeLightOrFromAside() {
        TouchUp x = Due.walled("w42;00;00;00;00");
        x.coat(1, 90, 90, 90);
        x.paint(7, 1);
        x.light(0, 0, 0);
        x.light(1, 1, 0);
        x.light(0, 0, 1);
        due.is("from aside by just the line", x.seen(-1), 2);
        due.is("the last cell's", x.seen(7), 2);
        due.is("the one above", x.seen(5), 1);
        due.is("the one beside", x.seen(6), 1);
        due.is("no edge around the end of a row", x.seen(4), 0);
        x.set(1, 11);
        due.is("from aside by less than the line", x.seen(-1), 0);
        x.light(1, 1, 1);
        due.is("in the last light", x.seen(-1), 2);
    }

    private static void edgesAreSeenNotFromAsideAlone() {
        TouchUp x = Due.walled("w12;00");
        x.coat(1, 80, 90, 90);
        x.paint(1, 1);
        x.light(1, 0, 0);
        due.is("unlike from aside", x.unlike(0, 1, 0, true), 5);
        due.is("seen by 10, from aside by 5", x.seen(-1), 1);
        x.set(1, 11);
        due.is("not seen by 10, from aside by 5", x.seen(-1), 0);
    }
}
