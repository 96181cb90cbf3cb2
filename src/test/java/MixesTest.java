/** Promises 15 to 17: mix, best, traitors. */
public final class MixesTest {
    private static final Due due = new Due();

    public static void main(String[] args) {
        mixesBecomeCoats();
        mixesAreRefused();
        theBestIsTheLeastUnlike();
        theBestHasSixDropsAtMost();
        theBestOfSeveral();
        theBestTakesKindsAndAllLights();
        theBestIsFreshWhateverTheSmoke();
        fewerDropsWinThoughTheyComeLater();
        traitorsAreTold();
        traitorsAreFreshAndNotFromAside();
        due.end("MixesTest");
    }

    private static void mixesBecomeCoats() {
        TouchUp x = Due.walled("w12;00");
        x.coat(1, 10, 20, 31);
        x.coat(2, 0, 99, 1);
        due.is("mix(1, 2, 0, 0)", x.mix(1, 2, 0, 0), 3);
        coatIs(x, 3, 0, 36, 43, 50);
        due.is("mix(0, 2, 1, 0)", x.mix(0, 2, 1, 0), 4);
        coatIs(x, 4, 1, 6, 46, 21);
        due.is("mix(0, 0, 9, 3)", x.mix(0, 0, 9, 3), 5);
        coatIs(x, 5, 2, 9, 85, 13);
        due.is("one mix more", x.mix(1, 0, 0, 0), TouchUp.FULL);
        due.is("one wrong mix more", x.mix(0, 0, 0, 0), TouchUp.OUTSIDE);
    }

    private static void coatIs(TouchUp x, int k, int kind, int a, int b, int c) {
        due.is("kind of " + k, x.ofCoat(k, -1), kind);
        due.is("band 0 of " + k, x.ofCoat(k, 0), a);
        due.is("band 1 of " + k, x.ofCoat(k, 1), b);
        due.is("band 2 of " + k, x.ofCoat(k, 2), c);
    }

    private static void mixesAreRefused() {
        TouchUp x = new TouchUp();
        due.is("mix without a wall", x.mix(1, 0, 0, 0), TouchUp.OUTSIDE);
        due.is("mix of none without a wall", x.mix(0, 0, 0, 0), TouchUp.OUTSIDE);
        x = Due.walled("w12;00");
        x.coat(0, 1, 1, 1);
        int big = Integer.MAX_VALUE;
        int[][] wrong = {{0, 0, 0, 0}, {10, 0, 0, 0}, {0, 10, 0, 0}, {-1, 2, 0, 0}, {2, -1, 0, 0}, {9, 4, 0, 0}, {4, 9, 0, 0},
            {1, 0, 1, 0}, {1, 0, 0, 1}, {1, 0, -1, 0}, {1, 0, 0, -1}, {big, big, 0, 3}, {Integer.MIN_VALUE, 5, 0, 0}};
        for (int[] w : wrong) {
            due.is("mix, outside", x.mix(w[0], w[1], w[2], w[3]), TouchUp.OUTSIDE);
        }
        due.is("many(2)", x.many(2), 2);
        due.is("mix of twelve", x.mix(9, 3, 0, 0), 2);
        due.is("mix of twelve", x.mix(3, 9, 0, 0), 3);
        due.is("mix of one", x.mix(0, 0, 0, 1), 4);
        coatIs(x, 4, 0, 23, 23, 23);
    }

    private static void bestIs(TouchUp x, int c, int unlike, int... drops) {
        due.is("best(" + c + ", -1)", x.best(c, -1), unlike);
        for (int k = 0; k < 4; k++) {
            due.is("best(" + c + ", " + k + ")", x.best(c, k), drops[k]);
        }
    }

    private static void theBestIsTheLeastUnlike() {
        TouchUp x = new TouchUp();
        due.is("best without a wall", x.best(0, 9), TouchUp.UNKNOWN);
        x = Due.walled("w13;090");
        bestIs(x, 0, 0, 1, 0, 0, 0);
        x.light(1, 1, 1);
        bestIs(x, 2, 0, 1, 0, 0, 0);
        x.coat(0, 60, 60, 60);
        x.coat(1, 0, 0, 0);
        x.coat(1, 0, 0, 0);
        x.coat(0, 75, 75, 75);
        x.coat(0, 70, 70, 70);
        x.paint(0, 4);
        x.paint(2, 5);
        bestIs(x, 0, 0, 1, 1, 0, 0);
        bestIs(x, 2, 0, 1, 2, 0, 0);
        x.years(5);
        // Cell 1 has lost 4, 9, 13 and looks like 244; (3, 1) gives 82 in each band, (5, 1) 85, (2, 1) 80, (4, 1) 84.
        bestIs(x, 1, 2, 3, 1, 0, 0);
        due.is("best(3, -1)", x.best(3, -1), TouchUp.UNKNOWN);
        due.is("best(-1, -1)", x.best(-1, -1), TouchUp.UNKNOWN);
        due.is("best(0, -2)", x.best(0, -2), TouchUp.OUTSIDE);
        due.is("best(0, 4)", x.best(0, 4), TouchUp.OUTSIDE);
        due.is("best makes no coat", x.many(2), 6);
        due.is("best paints nothing", x.ofCell(1, 3), 5);
    }

    private static void theBestHasSixDropsAtMost() {
        TouchUp x = Due.walled("w12;00");
        x.coat(0, 20, 20, 20);
        x.coat(0, 99, 99, 99);
        x.coat(0, 99, 99, 99);
        x.coat(0, 30, 30, 30);
        x.paint(1, 4);
        x.light(1, 0, 0);
        // Seven drops, (1, 6), would give 30; six give 31.
        bestIs(x, 1, 1, 1, 5, 0, 0);
    }

    private static void theBestOfSeveral() {
        TouchUp x = Due.walled("w12;00");
        x.coat(0, 90, 90, 90);
        x.light(1, 0, 0);
        bestIs(x, 0, 0, 0, 1, 0, 0);
        x = Due.walled("w12;00");
        x.coat(0, 90, 90, 90);
        x.coat(0, 0, 0, 0);
        x.coat(0, 90, 90, 90);
        x.coat(0, 45, 45, 45);
        bestIs(x, 0, 0, 0, 0, 0, 1);
        x.light(1, 0, 0);
        bestIs(x, 0, 0, 0, 0, 0, 1);
        x.paint(1, 4);
        // (0, 0, 1, 1), (0, 1, 1, 0) and (1, 0, 1, 0) give 45 with two drops.
        bestIs(x, 1, 0, 0, 0, 1, 1);
    }

    private static void theBestTakesKindsAndAllLights() {
        TouchUp x = Due.walled("w12;00");
        x.coat(1, 90, 90, 90);
        x.light(0, 0, 0);
        x.light(1, 2, 3);
        bestIs(x, 0, 0, 1, 0, 0, 0);
        x.paint(1, 1);
        bestIs(x, 1, 0, 0, 1, 0, 0);
        x = Due.walled("w12;00");
        x.coat(1, 86, 90, 90);
        x.coat(0, 90, 90, 84);
        x.paint(0, 1);
        x.light(1, 0, 0);
        x.light(0, 0, 1);
        x.paint(1, 2);
        x.coat(1, 90, 90, 60);
        bestIs(x, 0, 0, 0, 1, 0, 0);
        bestIs(x, 1, 0, 0, 0, 1, 0);
        x.coat(0, 87, 90, 80);
        x.paint(1, 4);
        // 88 and 80 in the bands that count, and plain, though both others in it shine.
        bestIs(x, 1, 1, 1, 1, 0, 1);
    }

    private static void theBestIsFreshWhateverTheSmoke() {
        TouchUp x = Due.walled("w12;90");
        x.set(0, 9);
        x.light(1, 1, 1);
        x.years(1);
        // It has lost 0, 1, 2 by sun and 1 in each band by smoke.
        bestIs(x, 0, 6, 1, 0, 0, 0);
        bestIs(x, 1, 3, 1, 0, 0, 0);
        x = Due.walled("w12;00");
        x.coat(1, 80, 90, 90);
        x.light(1, 0, 0);
        x.paint(1, 1);
        x.coat(0, 85, 90, 90);
        x.paint(0, 2);
        // Not from aside coat 1 is 5 apart, from aside 0; a mix of coats 0 and 1 is plain.
        bestIs(x, 0, 0, 0, 0, 1, 0);
        x.coat(0, 0, 0, 0);
        x.coat(0, 70, 90, 90);
        x.paint(0, 4);
        x.coat(1, 66, 90, 90);
        x.paint(1, 5);
        // (2, 0, 2, 1) and (0, 0, 5, 1) are plain and 70: the first has fewer drops.
        bestIs(x, 0, 0, 2, 0, 2, 1);
        // (0, 2, 2, 1) and (0, 5, 0, 1) shine and are 66: the first has fewer drops.
        bestIs(x, 1, 0, 0, 2, 2, 1);
    }

    private static void fewerDropsWinThoughTheyComeLater() {
        TouchUp x = Due.walled("w12;00");
        x.coat(0, 40, 0, 0);
        x.coat(0, 50, 0, 0);
        x.coat(0, 46, 0, 0);
        x.coat(0, 65, 0, 0);
        x.light(1, 0, 0);
        x.paint(1, 4);
        // (0, ..) gives 50 at most; of those that give 65 with two drops the only one is (1, 1).
        bestIs(x, 1, 0, 1, 1, 0, 0);
        x = Due.walled("w12;00");
        x.coat(0, 30, 0, 0);
        x.coat(0, 50, 0, 0);
        x.coat(0, 70, 0, 0);
        x.light(1, 0, 0);
        x.coat(0, 60, 0, 0);
        x.paint(1, 4);
        // (0, 0, 1, 1) comes ahead of (1, 1, 0, 0); (0, 1, 0, 3) comes between them.
        bestIs(x, 1, 0, 0, 0, 1, 1);
        x = Due.walled("w12;00");
        x.coat(0, 30, 0, 0);
        x.coat(0, 0, 0, 0);
        x.coat(0, 90, 0, 0);
        x.light(1, 0, 0);
        x.coat(0, 60, 0, 0);
        x.paint(1, 4);
        // (0, 0, 1, 2) and (0, 1, 0, 1): the second has fewer drops.
        bestIs(x, 1, 0, 0, 1, 0, 1);
    }

    private static void traitorsAre(TouchUp x, int light, int other, int... pairs) {
        String call = "traitors(" + light + ", " + other + ", ";
        due.is(call + "-1)", x.traitors(light, other, -1), pairs.length);
        for (int k = 0; k < pairs.length; k++) {
            due.is(call + k + ")", x.traitors(light, other, k), pairs[k]);
        }
        due.is(call + pairs.length + ")", x.traitors(light, other, pairs.length), TouchUp.NONE);
        due.is(call + "max)", x.traitors(light, other, Integer.MAX_VALUE), TouchUp.NONE);
    }

    private static void traitorsAreTold() {
        TouchUp x = Due.walled("w12;99");
        due.is("traitors without lights", x.traitors(0, 0, -1), TouchUp.UNKNOWN);
        x.light(1, 0, 0);
        x.light(0, 0, 1);
        traitorsAre(x, 0, 1);
        x.coat(0, 90, 90, 80);
        x.coat(0, 80, 90, 90);
        x.coat(0, 50, 50, 50);
        x.coat(0, 95, 90, 70);
        x.coat(1, 90, 90, 90);
        x.set(0, 9);
        x.years(20);
        traitorsAre(x, 0, 1, 1, 4, 14, 15, 45);
        traitorsAre(x, 1, 0, 2, 25);
        traitorsAre(x, 0, 0);
        x.set(1, 5);
        traitorsAre(x, 0, 1, 1, 15);
        x.set(1, 6);
        traitorsAre(x, 0, 1, 1, 4, 14, 15, 45);
        x.set(1, 0);
        traitorsAre(x, 0, 1);
        due.is("traitors(2, 0, 0)", x.traitors(2, 0, 0), TouchUp.UNKNOWN);
        due.is("traitors(0, 2, 0)", x.traitors(0, 2, 0), TouchUp.UNKNOWN);
        due.is("traitors(-1, 0, 0)", x.traitors(-1, 0, 0), TouchUp.UNKNOWN);
        due.is("traitors(0, -1, 0)", x.traitors(0, -1, 0), TouchUp.UNKNOWN);
        due.is("traitors(0, 1, -2)", x.traitors(0, 1, -2), TouchUp.UNKNOWN);
        due.is("traitors(0, 1, min)", x.traitors(0, 1, Integer.MIN_VALUE), TouchUp.UNKNOWN);
    }

    private static void traitorsAreFreshAndNotFromAside() {
        TouchUp x = Due.walled("w12;00");
        x.set(0, 9);
        x.coat(2, 90, 80, 90);
        x.coat(1, 90, 80, 90);
        x.coat(0, 90, 80, 90);
        x.light(9, 0, 9);
        x.light(0, 1, 0);
        // All four are alike in the first light, from aside by 90 less; the last three are alike in the other one, too.
        traitorsAre(x, 0, 1, 1, 2, 3);
        traitorsAre(x, 1, 0);
        x.set(1, 1);
        traitorsAre(x, 0, 1, 1, 2, 3);
    }
}
