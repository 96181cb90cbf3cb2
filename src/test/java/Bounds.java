import java.io.IOException;
import java.nio.file.Files;
import java.nio.file.Path;

/**
 * What the tests of boundary cases share: which words of the document are looked at, objects in three states,
 * and whether a refused call has changed nothing.
 */
final class Bounds {
    static final int BIG = Integer.MAX_VALUE;
    static final int SMALL = Integer.MIN_VALUE;
    static final int UNKNOWN = -1, OUTSIDE = -2, STATE = -3, FULL = -4, NONE = -9;
    static final int NULL = -11, CAST = -12, INDEX = -13, SIZE = -14;
    static final long LOST = Long.MIN_VALUE;

    interface Making {
        TouchUp made();
    }

    interface Doing {
        long on(TouchUp x);
    }

    private final Due due = new Due();
    private final String document;
    private String words = "";

    Bounds(String[] args) {
        Path file = Path.of(args.length > 0 ? args[0] : ".").resolve("../shared/DOC.md");
        // Where the document itself does not stand beside the project, its words can't be looked up.
        document = Files.exists(file) ? plain(read(file)) : "";
    }

    private static String read(Path file) {
        try {
            return Files.readString(file);
        } catch (IOException e) {
            throw new IllegalStateException(e);
        }
    }

    private static String plain(String text) {
        return text.replaceAll("\\s+", " ");
    }

    /** The words whose boundary the next lines look at; they have to stand in the document. */
    void says(String newWords) {
        words = newWords;
        due.holds("these words stand in the document: " + words, document.isEmpty() || document.contains(plain(words)));
    }

    void is(String call, long got, long want) {
        due.is("[" + words + "] " + call, got, want);
    }

    void end(String test) {
        due.end(test);
    }

    /** A call that names no faults is refused: it changes nothing, not even fault(). */
    void refused(String call, Making making, Doing doing, long want) {
        for (int before : new int[] {1, 4}) {
            TouchUp x = faulty(making, before);
            is(call, doing.on(x), want);
            is("fault() behind " + call, x.fault(), before);
            sameAs(call, x, faulty(making, before));
        }
    }

    /** A call that names faults is refused (fault 0) or comes to a fault: it changes nothing but fault(). */
    void failed(String call, Making making, Doing doing, long want, int fault) {
        for (int before : new int[] {1, 4}) {
            TouchUp x = faulty(making, before);
            is(call, doing.on(x), want);
            is("fault() behind " + call, x.fault(), fault);
            sameAs(call, x, faulty(making, before));
        }
    }

    /** An int call's fault, by what it answers. */
    void failed(String call, Making making, Doing doing, int want) {
        failed(call, making, doing, want, want <= NULL && want >= SIZE ? -10 - want : 0);
    }

    /** A call that only asks: it changes nothing, whatever it answers, not even fault(). */
    void asked(String call, Making making, Doing doing, long want) {
        refused(call, making, doing, want);
    }

    private void sameAs(String call, TouchUp x, TouchUp other) {
        String got = stateOf(x);
        String want = stateOf(other);
        is("the same behind " + call + ": " + got + " | " + want, got.equals(want) ? 1 : 0, 1);
    }

    /** With fault 1 or 4 of a call that changes nothing. */
    private static TouchUp faulty(Making making, int fault) {
        TouchUp x = making.made();
        if (fault == 1) {
            x.put(3, 0, 0);
        } else {
            x.sheet(0, 0, -1);
        }
        if (x.fault() != fault) {
            throw new IllegalStateException("fault() is not " + fault);
        }
        return x;
    }

    /** All that can be asked of an object but fault(), which asking for cells changes. */
    static String stateOf(TouchUp x) {
        StringBuilder s = new StringBuilder("trace " + x.trace() + " many");
        for (int what = 0; what <= 6; what++) {
            s.append(' ').append(x.many(what));
        }
        for (int k = 0; k < x.many(2); k++) {
            s.append(" coat");
            for (int what = -1; what <= 2; what++) {
                s.append(' ').append(x.ofCoat(k, what));
            }
        }
        for (int c = 0; c < x.many(0); c++) {
            s.append(" cell");
            for (int what = 0; what <= 4; what++) {
                s.append(' ').append(x.ofCell(c, what));
            }
            for (int l = 0; l < x.many(3); l++) {
                s.append(' ').append(x.look(c, l, false)).append('/').append(x.look(c, l, true));
            }
        }
        for (int k = 0; k < 4; k++) {
            s.append(" sheet ").append(rowOf(x, k));
        }
        return s.toString();
    }

    private static String rowOf(TouchUp x, int k) {
        for (int sort = 0; sort <= 2; sort++) {
            StringBuilder s = new StringBuilder("of " + sort + ":");
            int i = 0;
            for (long v = x.cell(k, 0, sort); v != LOST; v = x.cell(k, i, sort)) {
                s.append(' ').append(v);
                i++;
            }
            if (x.fault() == 1) {
                return "nothing";
            }
            if (x.fault() == 3) {
                return s.toString();
            }
        }
        return "no sort";
    }

    // ---- three states, all with a TEXT in SHEET 0, five shorts in SHEET 1, three ints in SHEET 2, nothing in SHEET 3

    /** No WALL. */
    static TouchUp bare() {
        TouchUp x = new TouchUp();
        Due.write(x, 0, 0, 0, "w23;123;456");
        x.sheet(1, 1, 5);
        int[] shorts = {1, -2, 300, -400, 5};
        for (int i = 0; i < shorts.length; i++) {
            x.put(1, i, shorts[i]);
        }
        x.sheet(2, 2, 3);
        for (int i = 0; i < 3; i++) {
            x.put(2, i, 90);
        }
        return x;
    }

    /** A WALL of 2 by 3, 3 COATS (one of each kind), 2 LIGHTS, YEAR 9, SMOKE 3, LINE 25, a picture before CELL 4. */
    static TouchUp busy() {
        TouchUp x = bare();
        x.wall(0, 0, 0, 11);
        x.coat(1, 10, 20, 30);
        x.coat(2, 40, 50, 60);
        x.light(1, 2, 3);
        x.light(9, 0, 4);
        x.set(0, 3);
        x.set(1, 25);
        x.paint(1, 1);
        x.paint(2, 2);
        x.years(5);
        x.hang(4, true);
        x.years(4);
        x.tell(2);
        x.name(0);
        return x;
    }

    /** As busy, but with 6 COATS, 4 LIGHTS and YEAR 40. */
    static TouchUp full() {
        TouchUp x = busy();
        x.coat(0, 11, 22, 33);
        x.coat(1, 99, 0, 99);
        x.coat(2, 0, 99, 0);
        x.light(0, 9, 0);
        x.light(2, 2, 2);
        x.years(31);
        return x;
    }

    /** A WALL of HIGH by WIDE without SUN. */
    static TouchUp dark(int high, int wide) {
        return Due.walled("w" + high + wide + (";" + "0".repeat(wide)).repeat(high));
    }
}
