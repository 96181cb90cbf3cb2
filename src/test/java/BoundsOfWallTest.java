/** Boundary cases of paragraph 1 and of promises 1 to 6 and 34: a new object, wall, ofCell, set, years, hang, many. */
public final class BoundsOfWallTest {
    private static final String TEXT = "w23;123;456";
    private static Bounds b;

    public static void main(String[] args) {
        b = new Bounds(args);
        aNewObject();
        highAndWide();
        everyCodeAtEveryPlace();
        aTextThatEndsTooSoon();
        aTextThatGoesOnTooLong();
        theLongestAndTheShortestText();
        cellsAreNumberedByRows();
        placesAreCountedInTheText();
        allIsMadeAnew();
        nothingIsLeftOfAGreaterWall();
        wallRefusals();
        wallNullAndCast();
        wallSizeAndIndex();
        wallTakesNoCells();
        aWrongTextChangesNothing();
        ofCellBounds();
        setBounds();
        yearsBounds();
        hangBounds();
        manyBounds();
        b.end("BoundsOfWallTest");
    }

    private static void wallIs(String text, int want) {
        TouchUp x = new TouchUp();
        b.is("wall by '" + text + "'", Due.raise(x, text), want);
        b.is("fault() behind it", x.fault(), 0);
        b.is("many(0) behind it", x.many(0), Math.max(0, want));
    }

    private static void aNewObject() {
        b.says("No WALL (no CELLS, COATS), SHEETS have nothing.");
        TouchUp x = new TouchUp();
        b.is("fault()", x.fault(), 0);
        b.is("trace()", x.trace(), 0);
        for (int what = 0; what <= 6; what++) {
            b.is("many(" + what + ")", x.many(what), 0);
        }
        b.is("ofCell(0, 0)", x.ofCell(0, 0), Bounds.UNKNOWN);
        b.is("ofCoat(0, -1)", x.ofCoat(0, -1), Bounds.UNKNOWN);
        b.is("look(0, 0, false)", x.look(0, 0, false), Bounds.UNKNOWN);
        for (int k = 0; k < 4; k++) {
            b.is("lose(" + k + ")", x.lose(k), 0);
        }
    }

    private static void highAndWide() {
        b.says("a digit 1 .. 4 (HIGH)");
        wallIs("w02;00", -101);
        wallIs("w12;00", 2);
        wallIs("w22;00;00", 4);
        wallIs("w32;00;00;00", 6);
        wallIs("w42;00;00;00;00", 8);
        wallIs("w52;00;00;00;00;00", -101);
        wallIs("w92", -101);
        b.says("a digit 2 .. 6 (WIDE)");
        wallIs("w10;", -102);
        wallIs("w11;0", -102);
        wallIs("w12;00", 2);
        wallIs("w13;000", 3);
        wallIs("w14;0000", 4);
        wallIs("w15;00000", 5);
        wallIs("w16;000000", 6);
        wallIs("w17;0000000", -102);
        wallIs("w19", -102);
        TouchUp x = Due.walled("w45;00000;00000;00000;00000");
        b.is("WIDE", x.many(1), 5);
    }

    /** What wall is due to answer, if the code at a place of TEXT is another one. */
    private static int answerWith(int place, int code) {
        boolean digit = code >= 48 && code <= 57;
        int asItIs = 6;
        int tooShort = -111;
        switch (place) {
            case 0: return code == 119 ? asItIs : -100;
            // One row alone goes on too long; three or four rows end too soon.
            case 1: return code == 50 ? asItIs : code == 49 ? -107 : code == 51 || code == 52 ? tooShort : -101;
            // Rows of two end ahead of the digit 3; wider ones come to a ; instead of a digit.
            case 2: return code == 51 ? asItIs : code == 50 ? -106 : code >= 52 && code <= 54 ? -107 : -102;
            case 3: case 7: return code == 59 ? asItIs : -100 - place;
            default: return digit ? asItIs : -100 - place;
        }
    }

    private static void everyCodeAtEveryPlace() {
        b.says("the place (from 0 on) of the first code with which no TEXT goes on");
        for (int place = 0; place < TEXT.length(); place++) {
            for (int code = -130; code <= 400; code++) {
                TouchUp x = new TouchUp();
                Due.write(x, 2, 1, 0, TEXT);
                x.put(2, place, code);
                b.is("wall with " + code + " at " + place, x.wall(2, 1, 0, TEXT.length()), answerWith(place, code));
            }
        }
        b.says("(Codes: w 119, ; 59, digits 48 .. 57.)");
        wallIs("v12;00", -100);
        wallIs("x12;00", -100);
        wallIs("w12:00", -103);
        wallIs("w12<00", -103);
        wallIs("w12;/0", -104);
        wallIs("w12;:0", -104);
        wallIs("w12;0/", -105);
        wallIs("w12;0:", -105);
        TouchUp x = Due.walled("w12;09");
        b.is("the SUN of code 48", x.ofCell(0, 0), 0);
        b.is("the SUN of code 57", x.ofCell(1, 0), 9);
        b.says("the first code");
        wallIs("v02:::", -100);
        wallIs("w02:::", -101);
        wallIs("w11:::", -102);
        wallIs("w12:::", -103);
        wallIs("w12;::", -104);
    }

    private static void aTextThatEndsTooSoon() {
        b.says("how many codes there are, if it just ends too soon");
        for (int n = 0; n < TEXT.length(); n++) {
            wallIs(TEXT.substring(0, n), -100 - n);
            TouchUp x = new TouchUp();
            Due.write(x, 0, 0, 0, TEXT);
            b.is("wall of the first " + n, x.wall(0, 0, 0, n), -100 - n);
            b.is("fault() behind it", x.fault(), 0);
        }
        wallIs(TEXT, 6);
    }

    private static void aTextThatGoesOnTooLong() {
        b.says("the first code with which no TEXT goes on");
        for (char more : new char[] {'0', '9', ';', 'w', 0}) {
            wallIs(TEXT + more, -111);
            wallIs("w12;00" + more, -106);
            wallIs("w12;00" + more + more, -106);
        }
        wallIs("w12;00;00", -106);
        wallIs("w12;00w12;00", -106);
    }

    private static void theLongestAndTheShortestText() {
        b.says("then HIGH times: ; and WIDE digits");
        String longest = "w46;012345;678901;234567;890123";
        wallIs(longest, 24);
        wallIs(longest.substring(0, 30), -130);
        wallIs(longest + "0", -131);
        wallIs(longest + ";00000000", -131);
        wallIs("w12;00", 2);
        wallIs("w12;0", -105);
        TouchUp x = new TouchUp();
        Due.write(x, 3, 2, 9, longest);
        b.is("wall at the end of forty", x.wall(3, 2, 9, 31), 24);
        b.is("wall of all forty", x.wall(3, 2, 0, 40), -100);
    }

    private static void cellsAreNumberedByRows() {
        b.says("numbered from 0 on by rows from above, in a row from the left");
        TouchUp x = Due.walled("w46;012345;678901;234567;890123");
        b.is("WIDE", x.many(1), 6);
        for (int c = 0; c < 24; c++) {
            b.is("SUN of CELL " + c, x.ofCell(c, 0), c % 10);
        }
        x = Due.walled("w42;01;23;45;67");
        for (int c = 0; c < 8; c++) {
            b.is("SUN of CELL " + c, x.ofCell(c, 0), c);
        }
    }

    private static void placesAreCountedInTheText() {
        b.says("A WALL by a TEXT of n cells of a SHEET from i on");
        for (int i = 0; i <= 29; i += 29) {
            TouchUp x = new TouchUp();
            Due.write(x, 1, 2, i, TEXT);
            b.is("wall from " + i + " on", x.wall(1, 2, i, 11), 6);
            x.put(1, i + 10, 58);
            b.is("wall from " + i + " on, wrong at its end", x.wall(1, 2, i, 11), -110);
            x.put(1, i, 118);
            b.is("wall from " + i + " on, wrong at once", x.wall(1, 2, i, 11), -100);
        }
    }

    private static void anewIs(TouchUp x, int cells, int wide) {
        int[] many = {cells, wide, 1, 0, 0, 0, 10};
        for (int what = 0; what <= 6; what++) {
            b.is("many(" + what + ")", x.many(what), many[what]);
        }
        for (int c = 0; c < cells; c++) {
            b.is("SUN of CELL " + c, x.ofCell(c, 0), 7);
            for (int what = 1; what <= 4; what++) {
                b.is("ofCell(" + c + ", " + what + ")", x.ofCell(c, what), 0);
            }
            for (int band = 0; band <= 2; band++) {
                b.is("back(" + c + ", " + band + ", true)", x.back(c, band, true), 90);
            }
        }
        b.is("ofCell of one more", x.ofCell(cells, 0), Bounds.UNKNOWN);
        b.is("kind of COAT 0", x.ofCoat(0, -1), 0);
        b.is("ofCoat(1, -1)", x.ofCoat(1, -1), Bounds.UNKNOWN);
        b.is("look(0, 0, false)", x.look(0, 0, false), Bounds.UNKNOWN);
        b.is("years(40)", x.years(40), 40);
    }

    private static void allIsMadeAnew() {
        b.says("A TEXT that is taken makes all anew: YEAR 0, SMOKE 0, LINE 10, no LIGHTS, no pictures, one COAT, number 0, of kind 0"
            + " and BANDS 90, 90, 90, with which all CELLS are painted.");
        String[] texts = {"w12;77", "w23;777;777", "w46;777777;777777;777777;777777"};
        int[] cells = {2, 6, 24};
        int[] wide = {2, 3, 6};
        for (int t = 0; t < 3; t++) {
            TouchUp x = Bounds.full();
            b.is("wall by " + texts[t], Due.raise(x, texts[t]), cells[t]);
            anewIs(x, cells[t], wide[t]);
        }
        TouchUp x = Bounds.full();
        Due.raise(x, "w12;77");
        b.says("COATS, 6 ever, numbered as they come");
        for (int k = 1; k <= 5; k++) {
            b.is("a COAT of the new WALL", x.coat(0, 1, 2, 3), k);
        }
        b.is("one more", x.coat(0, 1, 2, 3), Bounds.FULL);
        b.says("LIGHTS, 4 ever, numbered as they come");
        for (int l = 0; l <= 3; l++) {
            b.is("a LIGHT of the new WALL", x.light(1, 2, 3), l);
        }
        b.is("one more", x.light(1, 2, 3), Bounds.FULL);
    }

    private static void nothingIsLeftOfAGreaterWall() {
        b.says("makes all anew");
        TouchUp x = Due.walled("w46;777777;777777;777777;777777");
        x.coat(2, 1, 2, 3);
        for (int c = 0; c < 24; c++) {
            x.hang(c, c % 2 == 0);
            x.paint(c, 1);
        }
        x.years(20);
        Due.raise(x, "w12;77");
        b.is("many(0)", x.many(0), 2);
        x.years(3);
        b.is("wall again", Due.raise(x, "w46;777777;777777;777777;777777"), 24);
        anewIs(x, 24, 6);
    }

    private static Bounds.Doing wall(int sheet, int sort, int i, int n) {
        return x -> x.wall(sheet, sort, i, n);
    }

    private static void wallRefusals() {
        b.says("UNKNOWN; OUTSIDE: sort; FAULTS CAST (nothing is no CAST), NULL, SIZE: n is below 0, INDEX: not all cells are there; -100 less it.");
        for (int sheet : new int[] {-1, 4, Bounds.BIG, Bounds.SMALL}) {
            b.failed("wall(" + sheet + ", 0, 0, 11)", Bounds::busy, wall(sheet, 0, 0, 11), Bounds.UNKNOWN);
            b.failed("wall(" + sheet + ", 3, -1, -1)", Bounds::busy, wall(sheet, 3, -1, -1), Bounds.UNKNOWN);
        }
        for (int sort : new int[] {-1, 3, Bounds.BIG, Bounds.SMALL}) {
            b.failed("wall(0, " + sort + ", 0, 11)", Bounds::busy, wall(0, sort, 0, 11), Bounds.OUTSIDE);
            b.failed("wall(3, " + sort + ", -1, -1)", Bounds::busy, wall(3, sort, -1, -1), Bounds.OUTSIDE);
        }
        for (int sheet = 0; sheet <= 3; sheet++) {
            for (int sort = 0; sort <= 2; sort++) {
                TouchUp x = new TouchUp();
                Due.write(x, sheet, sort, 0, TEXT);
                b.is("wall(" + sheet + ", " + sort + ", 0, 11)", x.wall(sheet, sort, 0, 11), 6);
                b.is("fault() behind it", x.fault(), 0);
            }
        }
    }

    private static void wallNullAndCast() {
        b.says("FAULTS CAST (nothing is no CAST), NULL");
        for (int sort = 0; sort <= 2; sort++) {
            b.failed("wall(3, " + sort + ", 0, 0)", Bounds::busy, wall(3, sort, 0, 0), Bounds.NULL);
            b.failed("wall(3, " + sort + ", -1, -1)", Bounds::busy, wall(3, sort, -1, -1), Bounds.NULL);
            for (int sheet = 0; sheet <= 2; sheet++) {
                if (sort != sheet) {
                    b.failed("wall(" + sheet + ", " + sort + ", 0, 1)", Bounds::busy, wall(sheet, sort, 0, 1), Bounds.CAST);
                    b.failed("wall(" + sheet + ", " + sort + ", -1, -1)", Bounds::busy, wall(sheet, sort, -1, -1), Bounds.CAST);
                }
            }
        }
        TouchUp x = Bounds.busy();
        x.lose(0);
        b.is("wall of what is lost", x.wall(0, 1, 0, 11), Bounds.NULL);
    }

    private static void wallSizeAndIndex() {
        b.says("SIZE: n is below 0, INDEX: not all cells are there");
        for (int n : new int[] {-1, Bounds.SMALL}) {
            for (int i : new int[] {0, -1, 11, 12, Bounds.BIG, Bounds.SMALL}) {
                b.failed("wall(0, 0, " + i + ", " + n + ")", Bounds::busy, wall(0, 0, i, n), Bounds.SIZE);
            }
        }
        int[][] beyond = {{0, 12}, {1, 11}, {10, 2}, {11, 1}, {12, 1}, {-1, 1}, {-1, 11}, {-11, 11}, {0, Bounds.BIG}, {1, Bounds.BIG},
            {Bounds.BIG, 1}, {Bounds.BIG, Bounds.BIG}, {Bounds.SMALL, 1}, {Bounds.SMALL, Bounds.BIG}};
        for (int[] a : beyond) {
            b.failed("wall(0, 0, " + a[0] + ", " + a[1] + ")", Bounds::busy, wall(0, 0, a[0], a[1]), Bounds.INDEX);
        }
        b.failed("wall(0, 0, 1, 10)", Bounds::busy, wall(0, 0, 1, 10), -100);
        b.failed("wall(0, 0, 10, 1)", Bounds::busy, wall(0, 0, 10, 1), -100);
        b.failed("wall(0, 0, 0, 10)", Bounds::busy, wall(0, 0, 0, 10), -110);
        b.is("wall(0, 0, 0, 11)", Bounds.busy().wall(0, 0, 0, 11), 6);
    }

    private static void wallTakesNoCells() {
        b.says("INDEX (of cells from i on also where i is not 0 .. how many there are, if none of them is taken, too)");
        b.failed("wall(0, 0, 0, 0)", Bounds::busy, wall(0, 0, 0, 0), -100);
        b.failed("wall(0, 0, 11, 0)", Bounds::busy, wall(0, 0, 11, 0), -100);
        for (int i : new int[] {-1, 12, Bounds.BIG, Bounds.SMALL}) {
            b.failed("wall(0, 0, " + i + ", 0)", Bounds::busy, wall(0, 0, i, 0), Bounds.INDEX);
        }
        TouchUp x = new TouchUp();
        x.sheet(1, 2, 0);
        int[][] calls = {{0, 0, -100}, {0, 1, Bounds.INDEX}, {1, 0, Bounds.INDEX}, {-1, 0, Bounds.INDEX}, {0, -1, Bounds.SIZE}};
        for (int[] c : calls) {
            b.is("of an empty row, wall(1, 2, " + c[0] + ", " + c[1] + ")", x.wall(1, 2, c[0], c[1]), c[2]);
            b.is("fault() behind it", x.fault(), c[2] == -100 ? 0 : -10 - c[2]);
        }
    }

    private static void aWrongTextChangesNothing() {
        b.says("how many CELLS; -100 less the FIRST FAULT");
        for (Bounds.Making making : new Bounds.Making[] {Bounds::bare, Bounds::busy, Bounds::full}) {
            b.failed("wall of a part", making, wall(0, 0, 0, 7), -107);
            b.failed("wall of no TEXT", making, wall(1, 1, 0, 5), -100);
            b.failed("wall of no code", making, wall(2, 2, 3, 0), -100);
        }
    }

    private static void ofCellBounds() {
        b.says("Of a CELL: 0 SUN, 1 its COAT, 2 what SUN it had, 3 its years of air, 4 whether a picture hangs there (1, 0). UNKNOWN; OUTSIDE.");
        b.refused("ofCell(0, 0) without a WALL", Bounds::bare, x -> x.ofCell(0, 0), Bounds.UNKNOWN);
        for (int c : new int[] {-1, 6, 24, Bounds.BIG, Bounds.SMALL}) {
            b.refused("ofCell(" + c + ", 0)", Bounds::busy, x -> x.ofCell(c, 0), Bounds.UNKNOWN);
            b.refused("ofCell(" + c + ", 5)", Bounds::busy, x -> x.ofCell(c, 5), Bounds.UNKNOWN);
        }
        for (int what : new int[] {-1, 5, Bounds.BIG, Bounds.SMALL}) {
            b.refused("ofCell(0, " + what + ")", Bounds::busy, x -> x.ofCell(0, what), Bounds.OUTSIDE);
            b.refused("ofCell(5, " + what + ")", Bounds::busy, x -> x.ofCell(5, what), Bounds.OUTSIDE);
        }
        int[][] want = {{1, 0, 9, 9, 0}, {2, 1, 18, 9, 0}, {3, 2, 27, 9, 0}, {4, 0, 36, 9, 0}, {5, 0, 25, 5, 1}, {6, 0, 54, 9, 0}};
        for (int c = 0; c < 6; c++) {
            int cell = c;
            for (int w = 0; w <= 4; w++) {
                int what = w;
                b.asked("ofCell(" + c + ", " + w + ")", Bounds::busy, x -> x.ofCell(cell, what), want[c][w]);
            }
        }
    }

    private static void setBounds() {
        b.says("SMOKE (what 0), LINE (1) become v: what it was. OUTSIDE; STATE: there is no WALL.");
        for (int what : new int[] {-1, 2, Bounds.BIG, Bounds.SMALL}) {
            b.refused("set(" + what + ", 0)", Bounds::busy, x -> x.set(what, 0), Bounds.OUTSIDE);
            b.refused("set(" + what + ", 0) without a WALL", Bounds::bare, x -> x.set(what, 0), Bounds.OUTSIDE);
        }
        for (int v : new int[] {-1, 10, 999, Bounds.BIG, Bounds.SMALL}) {
            b.refused("set(0, " + v + ")", Bounds::busy, x -> x.set(0, v), Bounds.OUTSIDE);
            b.refused("set(0, " + v + ") without a WALL", Bounds::bare, x -> x.set(0, v), Bounds.OUTSIDE);
        }
        for (int v : new int[] {-1, 1000, Bounds.BIG, Bounds.SMALL}) {
            b.refused("set(1, " + v + ")", Bounds::busy, x -> x.set(1, v), Bounds.OUTSIDE);
            b.refused("set(1, " + v + ") without a WALL", Bounds::bare, x -> x.set(1, v), Bounds.OUTSIDE);
        }
        int[][] right = {{0, 0}, {0, 9}, {1, 0}, {1, 10}, {1, 999}};
        for (int[] r : right) {
            b.refused("set(" + r[0] + ", " + r[1] + ") without a WALL", Bounds::bare, x -> x.set(r[0], r[1]), Bounds.STATE);
            TouchUp x = Bounds.busy();
            b.is("set(" + r[0] + ", " + r[1] + ")", x.set(r[0], r[1]), r[0] == 0 ? 3 : 25);
            b.is("it became so", x.many(5 + r[0]), r[1]);
            b.is("the other one did not", x.many(6 - r[0]), r[0] == 0 ? 25 : 3);
            b.is("what it was", x.set(r[0], r[0]), r[1]);
        }
        TouchUp x = Due.walled("w12;00");
        b.is("SMOKE was 0 at first", x.set(0, 1), 0);
        b.is("LINE was 10 at first", x.set(1, 1), 10);
    }

    private static void yearsBounds() {
        b.says("So many years (0 .. 40, YEAR 40 at most) go by: YEAR then. OUTSIDE; STATE: there is no WALL.");
        for (int n : new int[] {-1, 41, Bounds.BIG, Bounds.SMALL, -40}) {
            b.refused("years(" + n + ") without a WALL", Bounds::bare, x -> x.years(n), Bounds.OUTSIDE);
            b.refused("years(" + n + ") in YEAR 9", Bounds::busy, x -> x.years(n), Bounds.OUTSIDE);
            b.refused("years(" + n + ") in YEAR 40", Bounds::full, x -> x.years(n), Bounds.OUTSIDE);
        }
        b.refused("years(0) without a WALL", Bounds::bare, x -> x.years(0), Bounds.STATE);
        b.refused("years(40) without a WALL", Bounds::bare, x -> x.years(40), Bounds.STATE);
        b.refused("years(32) in YEAR 9", Bounds::busy, x -> x.years(32), Bounds.OUTSIDE);
        b.refused("years(1) in YEAR 40", Bounds::full, x -> x.years(1), Bounds.OUTSIDE);
        b.asked("years(0) in YEAR 9", Bounds::busy, x -> x.years(0), 9);
        b.asked("years(0) in YEAR 40", Bounds::full, x -> x.years(0), 40);
        b.is("years(31) in YEAR 9", Bounds.busy().years(31), 40);
        TouchUp x = Due.walled("w12;09");
        b.is("years(40) in YEAR 0", x.years(40), 40);
        b.says("SUN of the CELL more and 1 more, but nothing, if a picture hangs there");
        b.is("what SUN it had", x.ofCell(0, 2), 0);
        b.is("its years of air", x.ofCell(0, 3), 40);
        b.is("what SUN it had", x.ofCell(1, 2), 360);
        b.is("its years of air", x.ofCell(1, 3), 40);
        x = Due.walled("w12;99");
        x.hang(0, true);
        x.years(40);
        b.is("what SUN it had behind a picture", x.ofCell(0, 2), 0);
        b.is("its years of air behind a picture", x.ofCell(0, 3), 0);
        b.is("beside it", x.ofCell(1, 2), 360);
    }

    private static void hangBounds() {
        b.says("A picture hangs before a CELL (true), or none: 1; 0: it was so. UNKNOWN.");
        for (boolean is : new boolean[] {false, true}) {
            b.refused("hang(0, " + is + ") without a WALL", Bounds::bare, x -> x.hang(0, is), Bounds.UNKNOWN);
            for (int c : new int[] {-1, 6, 24, Bounds.BIG, Bounds.SMALL}) {
                b.refused("hang(" + c + ", " + is + ")", Bounds::busy, x -> x.hang(c, is), Bounds.UNKNOWN);
            }
        }
        for (int c = 0; c < 6; c++) {
            int cell = c;
            b.asked("hang(" + c + ", as it was)", Bounds::busy, x -> x.hang(cell, cell == 4), 0);
            TouchUp x = Bounds.busy();
            b.is("hang(" + c + ", as it was not)", x.hang(c, c != 4), 1);
            for (int other = 0; other < 6; other++) {
                b.is("ofCell(" + other + ", 4)", x.ofCell(other, 4), (other == 4) == (other == c) ? 0 : 1);
            }
        }
    }

    private static void manyBounds() {
        b.says("How many: 0 CELLS, 1 WIDE, 2 COATS, 3 LIGHTS, 4 YEAR, 5 SMOKE, 6 LINE (0 without a WALL). OUTSIDE.");
        int[][] want = {{0, 0, 0, 0, 0, 0, 0}, {6, 3, 3, 2, 9, 3, 25}, {6, 3, 6, 4, 40, 3, 25}};
        Bounds.Making[] makings = {Bounds::bare, Bounds::busy, Bounds::full};
        for (int m = 0; m < 3; m++) {
            for (int w = 0; w <= 6; w++) {
                int what = w;
                b.asked("many(" + w + ")", makings[m], x -> x.many(what), want[m][w]);
            }
            for (int what : new int[] {-1, 7, Bounds.BIG, Bounds.SMALL}) {
                b.refused("many(" + what + ")", makings[m], x -> x.many(what), Bounds.OUTSIDE);
            }
        }
    }
}
