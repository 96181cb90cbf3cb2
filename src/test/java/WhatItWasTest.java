/** Promises 22 and 23: hung, old. */
public final class WhatItWasTest {
    private static final Due due = new Due();

    public static void main(String[] args) {
        yearsBySun();
        yearsBySmoke();
        allYearsOfABlackCoat();
        fastAndShinyOnes();
        toldInAnySortAndPlace();
        hungRefusesInOrder();
        oldRefusesInOrder();
        due.end("WhatItWasTest");
    }

    private static void told(TouchUp x, int a, int b, int c) {
        x.sheet(1, 2, 3);
        x.put(1, 0, a);
        x.put(1, 1, b);
        x.put(1, 2, c);
    }

    private static void hungIs(TouchUp x, int coat, int sun, int count, int least, int greatest) {
        String call = "hung(" + coat + ", " + sun + ", 1, 2, 0, ";
        due.is(call + "0)", x.hung(coat, sun, 1, 2, 0, 0), count);
        due.is(call + "1)", x.hung(coat, sun, 1, 2, 0, 1), least);
        due.is(call + "2)", x.hung(coat, sun, 1, 2, 0, 2), greatest);
    }

    private static void yearsBySun() {
        TouchUp x = Due.walled("w12;00");
        x.years(10);
        told(x, 88, 86, 84);
        hungIs(x, 0, 5, 1, 4, 4);
        due.is("old", x.old(0, 5, 1, 2, 0), 1L << 4);
        hungIs(x, 0, 6, 0, TouchUp.NONE, TouchUp.NONE);
        due.is("old", x.old(0, 6, 1, 2, 0), 0);
        told(x, 88, 86, 83);
        hungIs(x, 0, 5, 0, TouchUp.NONE, TouchUp.NONE);
        told(x, 88, 85, 84);
        hungIs(x, 0, 5, 0, TouchUp.NONE, TouchUp.NONE);
        told(x, 87, 86, 84);
        hungIs(x, 0, 5, 0, TouchUp.NONE, TouchUp.NONE);
        told(x, 85, 80, 75);
        hungIs(x, 0, 5, 1, 10, 10);
        told(x, 84, 79, 74);
        hungIs(x, 0, 5, 0, TouchUp.NONE, TouchUp.NONE);
        told(x, 70, 50, 30);
        hungIs(x, 0, 5, 0, TouchUp.NONE, TouchUp.NONE);
        due.is("old, 40 years", x.old(0, 5, 1, 2, 0), 1L << 40);
    }

    private static void yearsBySmoke() {
        TouchUp x = Due.walled("w12;99");
        x.years(10);
        x.set(0, 2);
        told(x, 90, 90, 90);
        hungIs(x, 0, 0, 3, 0, 2);
        due.is("old", x.old(0, 0, 1, 2, 0), 7);
        told(x, 89, 89, 89);
        hungIs(x, 0, 0, 2, 3, 4);
        told(x, 86, 86, 86);
        hungIs(x, 0, 0, 1, 10, 10);
        due.is("old", x.old(0, 0, 1, 2, 0), 7L << 10);
        x.set(0, 0);
        told(x, 90, 90, 90);
        hungIs(x, 0, 0, 11, 0, 10);
        due.is("old, always", x.old(0, 0, 1, 2, 0), (1L << 41) - 1);
    }

    private static void allYearsOfABlackCoat() {
        TouchUp x = Due.walled("w12;00");
        x.coat(1, 0, 0, 0);
        told(x, 0, 0, 0);
        hungIs(x, 1, 9, 1, 0, 0);
        x.years(40);
        hungIs(x, 1, 9, 41, 0, 40);
        due.is("old", x.old(1, 9, 1, 2, 0), (1L << 41) - 1);
        told(x, 5, 5, 5);
        hungIs(x, 1, 9, 0, TouchUp.NONE, TouchUp.NONE);
    }

    private static void fastAndShinyOnes() {
        TouchUp x = Due.walled("w12;00");
        x.coat(2, 90, 90, 90);
        x.coat(1, 90, 90, 90);
        x.years(20);
        x.set(0, 5);
        // After 3 years in sun 9: 2, 5, 8 and 3 by smoke; of a fast one 2, 4, 5.
        told(x, 88, 86, 85);
        hungIs(x, 1, 9, 1, 3, 3);
        hungIs(x, 2, 9, 0, TouchUp.NONE, TouchUp.NONE);
        told(x, 85, 82, 79);
        hungIs(x, 2, 9, 1, 3, 3);
        due.is("old", x.old(2, 9, 1, 2, 0), 8);
        due.is("old", x.old(0, 9, 1, 2, 0), 8);
    }

    private static void toldInAnySortAndPlace() {
        for (int sort = 0; sort < 3; sort++) {
            TouchUp x = Due.walled("w12;00");
            x.years(10);
            x.sheet(3, sort, 7);
            x.put(3, 4, 88);
            x.put(3, 5, 86);
            x.put(3, 6, 84);
            due.is("hung from 4 on", x.hung(0, 5, 3, sort, 4, 1), 4);
            due.is("old from 4 on", x.old(0, 5, 3, sort, 4), 16);
            due.is("hung from 3 on", x.hung(0, 5, 3, sort, 3, 0), 0);
            due.is("hung from 5 on", x.hung(0, 5, 3, sort, 5, 0), -13);
            due.is("old from 5 on", x.old(0, 5, 3, sort, 5), TouchUp.LOST);
            x.put(3, 4, 88 + 256);
            due.is("hung, cut", x.hung(0, 5, 3, sort, 4, 0), sort == 0 ? 1 : 0);
        }
    }

    private static void hungRefusesInOrder() {
        due.is("hung without a wall", new TouchUp().hung(0, 99, 0, 9, 9, 9), TouchUp.UNKNOWN);
        TouchUp x = Due.walled("w12;00");
        x.sheet(1, 1, 2);
        x.sheet(2, 1, 3);
        int[][] calls = {
            {1, 10, 4, 3, -1, 3, -1, 0}, {-1, 0, 0, 0, 0, 0, -1, 0}, {0, 10, 4, 3, -1, 3, -1, 0}, {0, 0, -1, 0, 0, 0, -1, 0},
            {0, 10, 3, 0, 0, 0, -2, 0}, {0, -1, 3, 0, 0, 0, -2, 0}, {0, 9, 3, 0, 0, 3, -2, 0}, {0, 9, 3, 0, 0, -1, -2, 0},
            {0, 9, 3, 3, 0, 0, -2, 0}, {0, 9, 3, -1, 0, 0, -2, 0},
            {0, 9, 3, 0, -1, 0, -11, 1}, {0, 9, 1, 0, -1, 0, -12, 2}, {0, 9, 1, 2, -1, 0, -12, 2}, {0, 9, 1, 1, 0, 0, -13, 3},
            {0, 9, 2, 1, -1, 0, -13, 3}, {0, 9, 2, 1, 1, 0, -13, 3}, {0, 9, 2, 1, Integer.MAX_VALUE, 0, -13, 3},
            {0, 9, 2, 1, Integer.MIN_VALUE, 0, -13, 3}, {0, 9, 2, 1, 0, 0, 0, 0}, {0, 9, 2, 1, 0, 1, -9, 0},
        };
        for (int[] c : calls) {
            String call = "hung(" + c[0] + ", " + c[1] + ", " + c[2] + ", " + c[3] + ", " + c[4] + ", " + c[5] + ")";
            due.is(call, x.hung(c[0], c[1], c[2], c[3], c[4], c[5]), c[6]);
            due.is("fault() behind " + call, x.fault(), c[7]);
            x.put(3, 0, 0);
        }
    }

    private static void oldRefusesInOrder() {
        due.is("old without a wall", new TouchUp().old(0, 0, 0, 0, 0), TouchUp.LOST);
        TouchUp x = Due.walled("w12;00");
        x.sheet(1, 1, 2);
        x.sheet(2, 1, 3);
        int[][] calls = {
            {1, 0, 3, 0, 0, 0}, {-1, 0, 3, 0, 0, 0}, {0, 0, 4, 0, 0, 0}, {0, 0, -1, 0, 0, 0}, {0, 10, 3, 0, 0, 0}, {0, -1, 3, 0, 0, 0},
            {0, 0, 3, 3, 0, 0}, {0, 0, 3, -1, 0, 0}, {0, 9, 3, 0, -1, 1}, {0, 9, 1, 0, -1, 2}, {0, 9, 1, 1, 0, 3}, {0, 9, 2, 1, 1, 3},
            {0, 9, 2, 1, -1, 3}, {0, 9, 2, 1, Integer.MAX_VALUE, 3},
        };
        for (int[] c : calls) {
            String call = "old(" + c[0] + ", " + c[1] + ", " + c[2] + ", " + c[3] + ", " + c[4] + ")";
            due.is(call, x.old(c[0], c[1], c[2], c[3], c[4]), TouchUp.LOST);
            due.is("fault() behind " + call, x.fault(), c[5]);
            x.put(3, 0, 0);
        }
        due.is("old(0, 9, 2, 1, 0)", x.old(0, 9, 2, 1, 0), 0);
        due.is("fault()", x.fault(), 0);
    }
}
