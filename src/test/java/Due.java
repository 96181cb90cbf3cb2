/** Counts and prints the calls whose answer is not the one that is due. */
final class Due {
    private int asked = 0;
    private int wrong = 0;

    void is(String call, long got, long want) {
        asked++;
        if (got != want) {
            wrong++;
            System.out.println(call + " answered " + got + ", due is " + want);
        }
    }

    void holds(String what, boolean is) {
        is(what, is ? 1 : 0, 1);
    }

    /** Ends the test's main method. */
    void end(String test) {
        System.out.println(test + ": " + asked + " looked at, " + wrong + " wrong");
        if (wrong != 0 || asked == 0) {
            System.exit(1);
        }
    }

    /** Puts a text into a sheet as a row of a sort, from cell i on, with nothing behind it. */
    static void write(TouchUp x, int sheet, int sort, int i, String text) {
        x.sheet(sheet, sort, i + text.length());
        for (int p = 0; p < text.length(); p++) {
            x.put(sheet, i + p, text.charAt(p));
        }
    }

    /** What wall() answers to a text. */
    static int raise(TouchUp x, String text) {
        write(x, 0, 0, 0, text);
        return x.wall(0, 0, 0, text.length());
    }

    /** A new object with a wall. */
    static TouchUp walled(String text) {
        TouchUp x = new TouchUp();
        if (raise(x, text) < 0) {
            throw new IllegalStateException("no wall by " + text);
        }
        return x;
    }
}
