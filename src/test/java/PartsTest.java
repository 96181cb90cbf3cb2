/** Promises 29 to 33: tell, name, as, trace, fault. */
public final class PartsTest {
    private static final Due due = new Due();

    public static void main(String[] args) {
        coatsAreToldByBodies();
        coatsAreNamed();
        coatsAreTakenAsKinds();
        traceWraps();
        faultIsOfTheLatestCallThatNamesOne();
        due.end("PartsTest");
    }

    private static TouchUp coated() {
        TouchUp x = Due.walled("w12;00");
        x.coat(1, 40, 1, 2);
        x.coat(2, 10, 3, 4);
        return x;
    }

    private static void coatsAreToldByBodies() {
        TouchUp x = coated();
        due.is("tell(0)", x.tell(0), 90);
        due.is("trace()", x.trace(), 1);
        x = coated();
        due.is("tell(1)", x.tell(1), 140);
        due.is("trace()", x.trace(), 2 * 31 + 1);
        x = coated();
        due.is("tell(2)", x.tell(2), 120);
        due.is("trace()", x.trace(), ((3 * 31 + 2) * 31 + 1) * 31 + 1);
        due.is("tell(3)", x.tell(3), TouchUp.UNKNOWN);
        due.is("tell(-1)", x.tell(-1), TouchUp.UNKNOWN);
        due.is("trace() as it was", x.trace(), 91327);
        due.is("tell(0)", x.tell(0), 90);
        due.is("trace() goes on", x.trace(), 91327 * 31 + 1);
        due.is("tell without a wall", new TouchUp().tell(0), TouchUp.UNKNOWN);
    }

    private static void coatsAreNamed() {
        TouchUp x = coated();
        due.is("name(0)", x.name(0), 0);
        due.is("trace()", x.trace(), 4);
        due.is("name(1)", x.name(1), 1);
        due.is("trace()", x.trace(), 4 * 31 + 4);
        due.is("name(2)", x.name(2), 90);
        due.is("trace()", x.trace(), (4 * 31 + 4) * 31 + 5);
        due.is("name(3)", x.name(3), TouchUp.UNKNOWN);
        due.is("name(-1)", x.name(-1), TouchUp.UNKNOWN);
        due.is("trace() as it was", x.trace(), (4 * 31 + 4) * 31 + 5);
        due.is("name without a wall", new TouchUp().name(0), TouchUp.UNKNOWN);
    }

    private static void coatsAreTakenAsKinds() {
        TouchUp x = coated();
        for (int k = 0; k < 3; k++) {
            for (int kind = 0; kind < 3; kind++) {
                boolean is = kind <= k;
                due.is("as(" + k + ", " + kind + ")", x.as(k, kind), is ? 1 : -12);
                due.is("fault()", x.fault(), is ? 0 : 2);
            }
        }
        due.is("as(0, 1)", x.as(0, 1), -12);
        due.is("as(0, 3)", x.as(0, 3), TouchUp.OUTSIDE);
        due.is("fault()", x.fault(), 0);
        due.is("as(0, 1)", x.as(0, 1), -12);
        due.is("as(0, -1)", x.as(0, -1), TouchUp.OUTSIDE);
        due.is("fault()", x.fault(), 0);
        due.is("as(0, 1)", x.as(0, 1), -12);
        due.is("as(3, 3)", x.as(3, 3), TouchUp.UNKNOWN);
        due.is("fault()", x.fault(), 0);
        due.is("as(-1, 0)", x.as(-1, 0), TouchUp.UNKNOWN);
        due.is("as leaves no trace", x.trace(), 0);
        due.is("as without a wall", new TouchUp().as(0, 3), TouchUp.UNKNOWN);
    }

    private static void traceWraps() {
        TouchUp x = coated();
        int want = 0;
        for (int n = 0; n < 40; n++) {
            x.tell(2);
            x.name(n % 3);
            for (int body : new int[] {3, 2, 1, 1, n % 3 == 2 ? 5 : 4}) {
                want = 31 * want + body;
            }
            due.is("trace() after " + n, x.trace(), want);
        }
    }

    /** A call that names faults and comes to none makes it 0; one that names none leaves it. */
    private static void faultIsOfTheLatestCallThatNamesOne() {
        TouchUp x = coated();
        x.light(1, 1, 1);
        x.put(1, 0, 0);
        due.is("fault()", x.fault(), 1);
        due.is("fault() again", x.fault(), 1);
        x.ofCell(9, 0);
        x.ofCell(0, 9);
        x.set(0, 1);
        x.set(5, 5);
        x.years(1);
        x.hang(0, true);
        x.coat(0, 1, 1, 1);
        x.ofCoat(9, 9);
        x.paint(0, 1);
        x.back(0, 9, true);
        x.light(1, 1, 1);
        x.look(0, 0, true);
        x.unlike(0, 1, 0, true);
        x.seen(-1);
        x.mix(1, 1, 0, 0);
        x.best(0, -1);
        x.traitors(0, 1, -1);
        x.patch(0, 0, 0);
        x.leave(0, 0);
        x.on(0, 0, 99);
        x.hide(0);
        x.lose(0);
        x.lose(9);
        x.tell(0);
        x.name(0);
        x.trace();
        x.many(9);
        due.is("fault() of the latest that names one", x.fault(), 1);
        x.sheet(1, 0, 3);
        due.is("fault() of sheet", x.fault(), 0);
        x.sheet(1, 0, -3);
        due.is("fault() of sheet", x.fault(), 4);
        x.put(1, 0, 3);
        due.is("fault() of put", x.fault(), 0);
        x.wall(1, 1, 0, 0);
        due.is("fault() of wall", x.fault(), 2);
        x.cell(1, 0, 0);
        due.is("fault() of cell", x.fault(), 0);
        x.cell(1, 3, 0);
        due.is("fault() of cell", x.fault(), 3);
        x.copy(1, 0, 1, 1, 2);
        due.is("fault() of copy", x.fault(), 0);
        x.hung(0, 0, 2, 0, 0, 0);
        due.is("fault() of hung", x.fault(), 1);
        x.old(0, 0, 1, 0, 0);
        due.is("fault() of old", x.fault(), 0);
        x.as(0, 2);
        due.is("fault() of as", x.fault(), 2);
        x.hung(0, 0, 1, 0, 0, 0);
        due.is("fault() of hung", x.fault(), 0);
    }
}
