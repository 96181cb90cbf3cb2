import java.util.Random;

/** Many runs of calls by chance (always the same chance), on the class and on the model: they have to answer alike. */
public final class ModelTest {
    private static final Due due = new Due();
    private static final int CALLS = 512;
    private static final int[] FAR = {Integer.MIN_VALUE, Integer.MIN_VALUE + 1, -1000, -2, -1, 41, 100, 1000, Integer.MAX_VALUE - 1,
        Integer.MAX_VALUE};

    private final Random chance;
    private final TouchUp x = new TouchUp();
    private final Model m = new Model();
    private final String run;
    private final boolean wild;
    private int calls = 0;

    private ModelTest(int seed) {
        chance = new Random(seed);
        run = "run " + seed + ", call ";
        wild = seed % 4 == 0;
    }

    public static void main(String[] args) {
        for (int seed = 1; seed <= 300; seed++) {
            new ModelTest(seed).goThrough();
        }
        due.end("ModelTest");
    }

    private void goThrough() {
        if (!wild) {
            prepare();
        }
        while (calls < CALLS) {
            step(chance.nextInt(36));
        }
    }

    private void is(String call, long got, long want) {
        calls++;
        due.is(run + calls + ": " + call, got, want);
    }

    /** Mostly least .. most, sometimes just beside it, seldom far away. */
    private int pick(int least, int most) {
        int of = chance.nextInt(wild ? 12 : 40);
        if (of == 0) {
            return FAR[chance.nextInt(FAR.length)];
        }
        if (of == 1) {
            return chance.nextBoolean() ? least - 1 : most + 1;
        }
        return least + chance.nextInt(Math.max(1, most - least + 1));
    }

    private int aCell() {
        return pick(0, Math.max(0, m.many(0) - 1));
    }

    private int aCoat() {
        return pick(0, Math.max(0, m.many(2) - 1));
    }

    private int aLight() {
        return pick(0, Math.max(0, m.many(3) - 1));
    }

    private void prepare() {
        raise(chance.nextInt(3), true);
        int coats = chance.nextInt(6);
        for (int k = 0; k < coats; k++) {
            coat();
        }
        int lights = chance.nextInt(5);
        for (int l = 0; l < lights; l++) {
            light();
        }
    }

    private void raise(int sort, boolean right) {
        int high = 1 + chance.nextInt(4);
        int wide = 2 + chance.nextInt(5);
        StringBuilder text = new StringBuilder("w" + high + wide);
        for (int r = 0; r < high; r++) {
            text.append(';');
            for (int c = 0; c < wide; c++) {
                text.append(chance.nextInt(3) == 0 ? 0 : chance.nextInt(10));
            }
        }
        if (!right) {
            spoil(text);
        }
        int from = chance.nextInt(41 - text.length());
        int sheet = chance.nextInt(4);
        int length = from + text.length();
        is("sheet(" + sheet + ", " + sort + ", " + length + ")", x.sheet(sheet, sort, length), m.sheet(sheet, sort, length));
        for (int p = 0; p < text.length(); p++) {
            is("put", x.put(sheet, from + p, text.charAt(p)), m.put(sheet, from + p, text.charAt(p)));
        }
        int n = text.length();
        is("wall of " + text, x.wall(sheet, sort, from, n), m.wall(sheet, sort, from, n));
    }

    private void spoil(StringBuilder text) {
        int at = chance.nextInt(text.length());
        switch (chance.nextInt(4)) {
            case 0: text.setLength(at); break;
            case 1: text.setCharAt(at, "w;0123456789/:x".charAt(chance.nextInt(15))); break;
            case 2: text.deleteCharAt(at); break;
            default: text.insert(at, "w;0123456789".charAt(chance.nextInt(12))); break;
        }
    }

    private void coat() {
        int kind = pick(0, 2);
        boolean near = chance.nextBoolean();
        int a = pick(near ? 80 : 0, 99);
        int b = pick(near ? 80 : 0, 99);
        int c = pick(near ? 80 : 0, 99);
        is("coat(" + kind + ", " + a + ", " + b + ", " + c + ")", x.coat(kind, a, b, c), m.coat(kind, a, b, c));
    }

    private void light() {
        int a = pick(0, 9);
        int b = pick(0, chance.nextInt(10));
        int c = pick(0, chance.nextInt(10));
        is("light(" + a + ", " + b + ", " + c + ")", x.light(a, b, c), m.light(a, b, c));
    }

    private void step(int which) {
        if (which < 12) {
            stepOfWall(which);
        } else if (which < 24) {
            stepOfFar(which);
        } else {
            stepOfSheets(which);
        }
        is("fault()", x.fault(), m.fault());
        is("trace()", x.trace(), m.trace());
    }

    private void stepOfWall(int which) {
        int c = aCell();
        int k = aCoat();
        int l = aLight();
        boolean is = chance.nextBoolean();
        switch (which) {
            case 0: {
                if (chance.nextInt(wild ? 2 : 12) == 0) {
                    raise(chance.nextInt(3), chance.nextBoolean());
                }
                break;
            }
            case 1: {
                int what = pick(0, 4);
                is("ofCell(" + c + ", " + what + ")", x.ofCell(c, what), m.ofCell(c, what));
                break;
            }
            case 2: {
                int what = pick(0, 1);
                int v = what == 0 ? pick(0, 9) : pick(0, chance.nextBoolean() ? 40 : 999);
                is("set(" + what + ", " + v + ")", x.set(what, v), m.set(what, v));
                break;
            }
            case 3: {
                int n = pick(0, 6);
                is("years(" + n + ")", x.years(n), m.years(n));
                break;
            }
            case 4: is("hang(" + c + ", " + is + ")", x.hang(c, is), m.hang(c, is)); break;
            case 5: coat(); break;
            case 6: {
                int what = pick(-1, 2);
                is("ofCoat(" + k + ", " + what + ")", x.ofCoat(k, what), m.ofCoat(k, what));
                break;
            }
            case 7: is("paint(" + c + ", " + k + ")", x.paint(c, k), m.paint(c, k)); break;
            case 8: {
                int band = pick(0, 2);
                is("back(" + c + ", " + band + ", " + is + ")", x.back(c, band, is), m.back(c, band, is));
                break;
            }
            case 9: light(); break;
            case 10: is("look(" + c + ", " + l + ", " + is + ")", x.look(c, l, is), m.look(c, l, is)); break;
            default: {
                int other = aCell();
                is("unlike(" + c + ", " + other + ", " + l + ", " + is + ")", x.unlike(c, other, l, is), m.unlike(c, other, l, is));
                break;
            }
        }
    }

    private void stepOfFar(int which) {
        int c = aCell();
        int k = aCoat();
        int l = aLight();
        switch (which) {
            case 12: is("seen(-1)", x.seen(-1), m.seen(-1)); break;
            case 13: is("seen(" + c + ")", x.seen(c), m.seen(c)); break;
            case 14: {
                int[] d = {pick(0, 4), pick(0, 4), pick(0, 4), pick(0, 4)};
                is("mix(" + d[0] + ", " + d[1] + ", " + d[2] + ", " + d[3] + ")", x.mix(d[0], d[1], d[2], d[3]), m.mix(d[0], d[1], d[2], d[3]));
                break;
            }
            case 15: {
                for (int what = -2; what <= 4; what++) {
                    is("best(" + c + ", " + what + ")", x.best(c, what), m.best(c, what));
                }
                break;
            }
            case 16: case 17: {
                int other = aLight();
                int at = pick(-1, 3);
                is("traitors(" + l + ", " + other + ", " + at + ")", x.traitors(l, other, at), m.traitors(l, other, at));
                break;
            }
            case 18: case 19: {
                int what = pick(0, 2);
                is("patch(" + c + ", " + k + ", " + what + ")", x.patch(c, k, what), m.patch(c, k, what));
                break;
            }
            case 20: is("leave(" + c + ", " + k + ")", x.leave(c, k), m.leave(c, k)); break;
            case 21: {
                int n = pick(0, 40);
                is("on(" + c + ", " + l + ", " + n + ")", x.on(c, l, n), m.on(c, l, n));
                break;
            }
            case 22: {
                int what = pick(0, 1);
                is("hide(" + what + ")", x.hide(what), m.hide(what));
                break;
            }
            default: {
                int what = pick(0, 6);
                is("many(" + what + ")", x.many(what), m.many(what));
                break;
            }
        }
    }

    private void stepOfSheets(int which) {
        int k = aCoat();
        int s = pick(0, 3);
        int sort = pick(0, 2);
        int i = pick(0, 6);
        switch (which) {
            case 24: case 25: asItWould(); break;
            case 26: {
                int sun = pick(0, 9);
                int what = pick(0, 2);
                is("hung(" + k + ", " + sun + ", ..)", x.hung(k, sun, s, sort, i, what), m.hung(k, sun, s, sort, i, what));
                is("old(" + k + ", " + sun + ", ..)", x.old(k, sun, s, sort, i), m.old(k, sun, s, sort, i));
                break;
            }
            case 27: {
                int n = chance.nextInt(6) == 0 ? pick(0, 40) : pick(0, 8);
                is("sheet(" + s + ", " + sort + ", " + n + ")", x.sheet(s, sort, n), m.sheet(s, sort, n));
                break;
            }
            case 28: is("lose(" + s + ")", x.lose(s), m.lose(s)); break;
            case 29: {
                int v = chance.nextBoolean() ? chance.nextInt() : pick(-130, 130);
                is("put(" + s + ", " + i + ", " + v + ")", x.put(s, i, v), m.put(s, i, v));
                break;
            }
            case 30: is("cell(" + s + ", " + i + ", " + sort + ")", x.cell(s, i, sort), m.cell(s, i, sort)); break;
            case 31: {
                int other = pick(0, 3);
                int j = pick(0, 6);
                int n = pick(0, 4);
                is("copy(" + s + ", " + i + ", " + other + ", " + j + ", " + n + ")", x.copy(s, i, other, j, n), m.copy(s, i, other, j, n));
                break;
            }
            case 32: is("tell(" + k + ")", x.tell(k), m.tell(k)); break;
            case 33: is("name(" + k + ")", x.name(k), m.name(k)); break;
            case 34: {
                int kind = pick(0, 2);
                is("as(" + k + ", " + kind + ")", x.as(k, kind), m.as(k, kind));
                break;
            }
            default: {
                int n = pick(0, 7);
                is("wall(" + s + ", " + sort + ", " + i + ", " + n + ")", x.wall(s, sort, i, n), m.wall(s, sort, i, n));
                break;
            }
        }
    }

    /** hung and old, told what a cell really gives back. */
    private void asItWould() {
        int c = chance.nextInt(Math.max(1, m.many(0)));
        int s = chance.nextInt(4);
        int sort = chance.nextInt(3);
        is("sheet", x.sheet(s, sort, 3), m.sheet(s, sort, 3));
        for (int b = 0; b < 3; b++) {
            int back = m.back(c, b, false);
            is("put", x.put(s, b, back), m.put(s, b, back));
        }
        int k = m.ofCell(c, 1);
        int sun = m.ofCell(c, 0);
        for (int what = 0; what <= 2; what++) {
            is("hung(" + k + ", " + sun + ", as it would)", x.hung(k, sun, s, sort, 0, what), m.hung(k, sun, s, sort, 0, what));
        }
        is("old(" + k + ", " + sun + ", as it would)", x.old(k, sun, s, sort, 0), m.old(k, sun, s, sort, 0));
    }
}
