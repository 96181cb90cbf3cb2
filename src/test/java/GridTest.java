import java.lang.reflect.Method;
import java.lang.reflect.Modifier;
import java.util.ArrayList;
import java.util.Arrays;
import java.util.List;
import java.util.Map;
import java.util.TreeMap;

/**
 * Every call with every choice of boundary values for its arguments, in six states, on the class and on the model:
 * they have to answer alike, and all that can be asked behind the calls has to be alike, too.
 */
public final class GridTest {
    private static final int BIG = Integer.MAX_VALUE;
    private static final int SMALL = Integer.MIN_VALUE;
    /** An object is good for 512 calls; these leave room for its making and for asking for all of it. */
    private static final int CALLS = 50;
    private static final int STATES = 6;

    private static final int[] CELL = {SMALL, -2, -1, 0, 5, 6, 24, BIG};
    private static final int[] COAT = {SMALL, -1, 0, 2, 3, 5, 6, BIG};
    private static final int[] LIGHT = {SMALL, -1, 0, 1, 2, 3, 4, BIG};
    private static final int[] SHEET = {SMALL, -1, 0, 1, 2, 3, 4, BIG};
    private static final int[] SORT = {SMALL, -1, 0, 1, 2, 3, BIG};
    private static final int[] PLACE = {SMALL, -1, 0, 1, 2, 3, 5, 10, 11, 12, 40, BIG - 2, BIG};
    private static final int[] LENGTH = {SMALL, -1, 0, 1, 3, 6, 11, 12, 40, 41, BIG};
    private static final int[] FEW = {SMALL, -1, 0, 1, 2, 3, BIG};
    private static final int[] WHAT = {SMALL, -2, -1, 0, 1, 2, 3, 4, 5, 6, 7, BIG};
    private static final int[] YES = {0, 1};
    private static final int[] BAND = {SMALL, -1, 0, 1, 98, 99, 100, BIG};
    private static final int[] WEIGHT = {SMALL, -1, 0, 1, 8, 9, 10, BIG};
    private static final int[] DROPS = {SMALL, -1, 0, 1, 3, 4, 9, 10, BIG};
    private static final int[] YEARS = {SMALL, -1, 0, 1, 2, 30, 31, 32, 39, 40, 41, BIG};
    private static final int[] SUN = {SMALL, -1, 0, 5, 9, 10, BIG};
    private static final int[] VALUE = {SMALL, -1, 0, 8, 9, 10, 11, 998, 999, 1000, BIG};
    private static final int[] NUMBER = {SMALL, -32769, -129, -128, -1, 0, 127, 128, 255, 256, 32767, 32768, 65536, BIG};

    private static final Due due = new Due();
    private static final Map<String, int[][]> GRID = new TreeMap<>();
    private static final Map<String, Method> OURS = methods(TouchUp.class, TouchUp.class);
    private static final Map<String, Method> MODELS = methods(Model.class, TouchUp.class);

    private TouchUp x;
    private Model m;

    public static void main(String[] args) {
        fill();
        due.is("calls in the grid", GRID.size(), 33);
        for (Map.Entry<String, int[][]> e : GRID.entrySet()) {
            List<int[]> all = choices(e.getValue());
            for (int state = 0; state < STATES; state++) {
                for (int from = 0; from < all.size(); from += CALLS) {
                    new GridTest().run(e.getKey(), all.subList(from, Math.min(all.size(), from + CALLS)), state);
                }
            }
        }
        oneObjectForAll();
        due.end("GridTest");
    }

    /** What an object answers behind its 512th call is free, but it still has to answer. */
    private static void oneObjectForAll() {
        GridTest one = new GridTest();
        one.x = new TouchUp();
        one.m = new Model();
        one.make(STATES - 1);
        for (Map.Entry<String, int[][]> e : GRID.entrySet()) {
            for (int[] a : choices(e.getValue())) {
                answer(OURS.get(e.getKey()), one.x, a);
            }
        }
        due.holds("one object answers them all", true);
    }

    private static void fill() {
        GRID.put("wall", new int[][] {SHEET, SORT, PLACE, LENGTH});
        GRID.put("ofCell", new int[][] {CELL, WHAT});
        GRID.put("set", new int[][] {FEW, VALUE});
        GRID.put("years", new int[][] {YEARS});
        GRID.put("hang", new int[][] {CELL, YES});
        GRID.put("coat", new int[][] {FEW, BAND, BAND, BAND});
        GRID.put("ofCoat", new int[][] {COAT, WHAT});
        GRID.put("paint", new int[][] {CELL, COAT});
        GRID.put("back", new int[][] {CELL, FEW, YES});
        GRID.put("light", new int[][] {WEIGHT, WEIGHT, WEIGHT});
        GRID.put("look", new int[][] {CELL, LIGHT, YES});
        GRID.put("unlike", new int[][] {CELL, CELL, LIGHT, YES});
        GRID.put("seen", new int[][] {CELL});
        GRID.put("mix", new int[][] {DROPS, DROPS, DROPS, DROPS});
        GRID.put("best", new int[][] {CELL, WHAT});
        GRID.put("traitors", new int[][] {LIGHT, LIGHT, WHAT});
        GRID.put("patch", new int[][] {CELL, COAT, FEW});
        GRID.put("leave", new int[][] {CELL, COAT});
        GRID.put("on", new int[][] {CELL, LIGHT, YEARS});
        GRID.put("hide", new int[][] {FEW});
        GRID.put("hung", new int[][] {COAT, SUN, {-1, 0, 2, 3, 4}, {-1, 0, 2, 3}, {SMALL, -1, 0, 1, 8, 9, BIG}, FEW});
        GRID.put("old", new int[][] {COAT, SUN, SHEET, SORT, {SMALL, -1, 0, 1, 8, 9, BIG}});
        GRID.put("sheet", new int[][] {SHEET, SORT, LENGTH});
        GRID.put("lose", new int[][] {SHEET});
        GRID.put("put", new int[][] {SHEET, PLACE, NUMBER});
        GRID.put("cell", new int[][] {SHEET, PLACE, SORT});
        GRID.put("copy", new int[][] {{-1, 0, 1, 3, 4}, PLACE, {-1, 0, 1, 3, 4}, PLACE, LENGTH});
        GRID.put("tell", new int[][] {COAT});
        GRID.put("name", new int[][] {COAT});
        GRID.put("as", new int[][] {COAT, FEW});
        GRID.put("trace", new int[][] {});
        GRID.put("fault", new int[][] {});
        GRID.put("many", new int[][] {WHAT});
    }

    private static List<int[]> choices(int[][] values) {
        List<int[]> all = new ArrayList<>();
        all.add(new int[0]);
        for (int[] of : values) {
            List<int[]> longer = new ArrayList<>();
            for (int[] head : all) {
                for (int v : of) {
                    int[] row = Arrays.copyOf(head, head.length + 1);
                    row[head.length] = v;
                    longer.add(row);
                }
            }
            all = longer;
        }
        return all;
    }

    private void run(String name, List<int[]> calls, int state) {
        x = new TouchUp();
        m = new Model();
        make(state);
        for (int[] a : calls) {
            same("in state " + state + " ", name, a);
            same("behind " + name + Arrays.toString(a) + " ", "fault");
        }
        ask(name + Arrays.toString(calls.get(calls.size() - 1)) + ".. in state " + state + ": ");
    }

    private void make(int state) {
        text("w23;109;456");
        same("", "sheet", 1, 1, 5);
        same("", "put", 1, 2, 300);
        same("", "sheet", 2, 2, 3);
        for (int i = 0; i < 3; i++) {
            same("", "put", 2, i, 90);
        }
        same("", "put", 3, 0, 0);
        if (state == 0) {
            return;
        }
        same("", "wall", 0, 0, 0, 11);
        if (state == 1) {
            return;
        }
        same("", "coat", 1, 80, 99, 0);
        same("", "light", 1, 2, 3);
        if (state == 2) {
            same("", "as", 0, 1);
            return;
        }
        same("", "coat", 2, 91, 85, 99);
        same("", "light", 0, 9, 1);
        same("", "paint", 1, 1);
        same("", "paint", 5, 2);
        same("", "set", 0, 3);
        same("", "years", 9);
        same("", "hang", 4, 1);
        if (state == 3) {
            same("", "sheet", 0, 0, -1);
            return;
        }
        for (int k = 3; k < 6; k++) {
            same("", "mix", 1, 6 - k, k - 2, 0);
        }
        same("", "light", 9, 9, 9);
        same("", "light", 0, 0, 0);
        same("", "years", 30);
        same("", "set", 1, 40);
        if (state == 5) {
            same("", "years", 1);
            same("", "set", 1, 0);
            same("", "tell", 2);
        }
    }

    private void text(String text) {
        same("", "sheet", 0, 0, text.length());
        for (int p = 0; p < text.length(); p++) {
            same("", "put", 0, p, text.charAt(p));
        }
    }

    private void ask(String what) {
        same(what, "trace");
        for (int w = 0; w <= 6; w++) {
            same(what, "many", w);
        }
        for (int k = 0; k < x.many(2); k++) {
            for (int w = -1; w <= 2; w++) {
                same(what, "ofCoat", k, w);
            }
        }
        for (int c = 0; c < x.many(0); c++) {
            for (int w = 1; w <= 4; w++) {
                same(what, "ofCell", c, w);
            }
            for (int l = 0; l < x.many(3); l++) {
                same(what, "look", c, l, 1);
            }
        }
        for (int k = 0; k < 4; k++) {
            for (int sort = 0; sort <= 2; sort++) {
                for (int i = 0; i <= 12; i++) {
                    same(what, "cell", k, i, sort);
                }
            }
        }
    }

    private void same(String ahead, String name, int... a) {
        long got = answer(OURS.get(name), x, a);
        long want = answer(MODELS.get(name), m, a);
        // The text is made only where it is printed: there are millions of calls.
        due.is(got == want ? "" : ahead + name + Arrays.toString(a), got, want);
    }

    /** The methods of a class that bear the names and take the arguments of the face. */
    private static Map<String, Method> methods(Class<?> of, Class<?> face) {
        Map<String, Method> all = new TreeMap<>();
        try {
            for (Method m : face.getDeclaredMethods()) {
                if (Modifier.isPublic(m.getModifiers())) {
                    Method other = of.getDeclaredMethod(m.getName(), m.getParameterTypes());
                    other.setAccessible(true);
                    all.put(m.getName(), other);
                }
            }
        } catch (NoSuchMethodException e) {
            throw new IllegalStateException(e);
        }
        return all;
    }

    private static long answer(Method method, Object on, int... a) {
        Class<?>[] types = method.getParameterTypes();
        Object[] given = new Object[a.length];
        for (int i = 0; i < a.length; i++) {
            given[i] = types[i] == boolean.class ? (Object) (a[i] != 0) : (Object) a[i];
        }
        try {
            return ((Number) method.invoke(on, given)).longValue();
        } catch (ReflectiveOperationException e) {
            throw new IllegalStateException(method.getName() + Arrays.toString(a), e);
        }
    }
}
