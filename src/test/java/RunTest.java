/** Promises 9 to 11: run, member, worked; and what each kind of NODE gives. */
public final class RunTest {
    private static final int BAD = PlanRules.BAD;
    private static final int MIN = Integer.MIN_VALUE, MAX = Integer.MAX_VALUE;

    public static void main(String[] args) {
        filterSetKeep();
        joining();
        unionFoldOnceFirst();
        sharedOnes();
        failing();
        latestRun();
        manyRows();
        wrongOnes();
        Check.end();
    }

    /** MEMBERS 0 to 5 as FORMULAS 0 to 5, SOURCES as NODES 0 to 3. */
    private static PlanRules started() {
        PlanRules x = new PlanRules();
        for (int m = 0; m < 6; m++) {
            x.formula(0, m, 0);
        }
        for (int source = 0; source < 4; source++) {
            x.node(0, source, 0, 0, 0);
        }
        x.row(0, 1, 2, 3);
        x.row(0, 2, 0, 1);
        x.row(0, 1, 5, 7);
        x.row(1, 1, 9, 0);
        x.row(1, 2, 4, -1);
        x.row(1, 1, 9, 0);
        return x;
    }

    private static void gives(String what, PlanRules x, int n, int[]... want) {
        Check.due(what, x.run(n), want.length);
        for (int i = 0; i < want.length; i++) {
            for (int m = 0; m < 6; m++) {
                Check.due(what + ": member(" + i + ", " + m + ")", x.member(i, m), m < want[i].length ? want[i][m] : 0);
            }
        }
    }

    private static int[] of(int... members) {
        return members;
    }

    private static void filterSetKeep() {
        PlanRules x = started();
        gives("FILTER by MEMBER 1", x, x.node(1, 0, 0, 0, 1), of(1, 2, 3), of(1, 5, 7));
        Check.due("worked(1)", x.worked(1), 3);
        Check.due("worked(2)", x.worked(2), 2);
        int minus = x.formula(3, 1, 2);
        gives("FILTER by what is below 0", x, x.node(1, 0, 0, 0, minus), of(1, 2, 3), of(2, 0, 1), of(1, 5, 7));
        Check.due("worked(1) with the parts", x.worked(1), 9);
        gives("SET 4", x, x.node(2, 0, 0, 4, minus), of(1, 2, 3, 0, -1), of(2, 0, 1, 0, -1), of(1, 5, 7, 0, -2));
        gives("SET what it reads", x, x.node(2, 0, 0, 1, minus), of(1, -1, 3), of(2, -1, 1), of(1, -2, 7));
        gives("KEEP 0, 2", x, x.node(3, 0, 0, 0, 5), of(1, 0, 3), of(2, 0, 1), of(1, 0, 7));
        gives("KEEP nothing", x, x.node(3, 0, 0, 0, 0), of(), of(), of());
        int both = x.formula(9, 1, 2);
        x.run(x.node(1, 0, 0, 0, both));
        Check.due("b is not worked where a is 0", x.worked(1), 3 + 3 + 2);
        int either = x.formula(10, 1, 2);
        x.run(x.node(1, 0, 0, 0, either));
        Check.due("b is not worked where a is not 0", x.worked(1), 3 + 3 + 1);
    }

    private static void joining() {
        PlanRules x = started();
        gives("JOIN by 0 with 1 of b", x, x.node(4, 0, 1, 0, 2),
            of(1, 9, 3), of(1, 9, 3), of(2, 4, 1), of(1, 9, 7), of(1, 9, 7));
        gives("JOIN with all of b", x, x.node(4, 0, 1, 0, 63),
            of(1, 9, 0), of(1, 9, 0), of(2, 4, -1), of(1, 9, 0), of(1, 9, 0));
        gives("JOIN with nothing of b", x, x.node(4, 0, 1, 0, 0),
            of(1, 2, 3), of(1, 2, 3), of(2, 0, 1), of(1, 5, 7), of(1, 5, 7));
        gives("JOIN by what is nowhere the same", x, x.node(4, 0, 1, 1, 63));
        gives("JOIN with itself", x, x.node(4, 0, 0, 0, 4), of(1, 2, 3), of(1, 2, 7), of(2, 0, 1), of(1, 5, 3),
            of(1, 5, 7));
        Check.due("worked(2): each once", x.worked(2), 2);
        Check.due("JOIN by MEMBER 5", x.run(x.node(4, 0, 1, 5, 0)), 9);
        Check.due("JOIN with none", x.run(x.node(4, 0, 2, 5, 0)), 0);
    }

    private static void unionFoldOnceFirst() {
        PlanRules x = started();
        int union = x.node(5, 1, 0, 0, 0);
        gives("UNION", x, union, of(1, 9, 0), of(2, 4, -1), of(1, 9, 0), of(1, 2, 3), of(2, 0, 1), of(1, 5, 7));
        gives("ONCE", x, x.node(7, union, 0, 0, 0), of(1, 9, 0), of(2, 4, -1), of(1, 2, 3), of(2, 0, 1), of(1, 5, 7));
        gives("FOLD by 0 of 1", x, x.node(6, union, 0, 0, 1), of(1, 25), of(2, 4));
        gives("FOLD by 2 of 0", x, x.node(6, union, 0, 2, 0), of(2, 0, 0), of(2, 0, -1), of(1, 0, 3), of(2, 0, 1),
            of(1, 0, 7));
        gives("FOLD by 5 of 4", x, x.node(6, union, 0, 5, 4), of());
        gives("FIRST 0", x, x.node(8, union, 0, 0, 0));
        gives("FIRST 2", x, x.node(8, union, 0, 0, 2), of(1, 9, 0), of(2, 4, -1));
        Check.due("FIRST 100", x.run(x.node(8, union, 0, 0, 100)), 6);
        Check.due("FOLD of none", x.run(x.node(6, 2, 0, 0, 1)), 0);
        Check.due("ONCE of none", x.run(x.node(7, 2, 0, 0, 0)), 0);
        x.row(3, 5, MAX, 0);
        x.row(3, 5, 1, 0);
        gives("a sum wraps", x, x.node(6, 3, 0, 0, 1), of(5, MIN));
        int eight = x.formula(1, 8, 0);
        for (int m = 0; m < 6; m++) {
            int one = x.node(8, 3, 0, 0, 1);
            int mixed = x.node(5, x.node(2, one, 0, m, eight), one, 0, 0);
            Check.due("ROWS that differ in MEMBER " + m + " alone", x.run(x.node(7, mixed, 0, 0, 0)), 2);
        }
    }

    private static void sharedOnes() {
        PlanRules x = started();
        int filter = x.node(1, 0, 0, 0, 1);
        int union = x.node(5, filter, filter, 0, 0);
        int twice = x.node(5, union, filter, 0, 0);
        Check.due("a shared NODE", x.run(twice), 6);
        Check.due("its FORMULAS are worked once", x.worked(1), 3);
        Check.due("NODES worked", x.worked(2), 4);
    }

    private static void failing() {
        PlanRules x = started();
        int quotient = x.formula(5, 2, 1);
        int item = x.formula(6, 2, 0);
        int deep = x.formula(11, x.formula(2, quotient, 0), 0);
        int byZero = x.node(1, 0, 0, 0, quotient);
        Check.due("run", x.run(byZero), -11);
        isWorked(x, 1, 6, 2, byZero);
        Check.due("no ROWS", x.member(0, 0), 0);
        int byIndex = x.node(2, 1, 0, 0, item);
        Check.due("run", x.run(byIndex), -12);
        isWorked(x, 2, 4, 2, byIndex);
        int above = x.node(7, x.node(5, byIndex, byZero, 0, 0), 0, 0, 0);
        Check.due("a ahead of b", x.run(above), -12);
        isWorked(x, 2, 4, 2, byIndex);
        Check.due("a ahead of b", x.run(x.node(4, byZero, byIndex, 0, 0)), -11);
        int late = x.node(5, 2, byZero, 0, 0);
        Check.due("in b", x.run(x.node(8, late, 0, 0, 0)), -11);
        isWorked(x, 1, 6, 3, byZero);
        int wrapped = x.node(2, 0, 0, 5, deep);
        Check.due("a part FAILS", x.run(wrapped), -11);
        isWorked(x, 1, 6 + 5, 2, wrapped);
        Check.due("what is below is worked wholly", x.run(x.node(8, byZero, 0, 0, 1)), -11);
        Check.due("no ROWS, no FAILURE", x.run(x.node(1, 2, 0, 0, quotient)), 0);
        isWorked(x, 0, 0, 2, -1);
    }

    private static void isWorked(PlanRules x, int... want) {
        for (int what = 0; what < 4; what++) {
            Check.due("worked(" + what + ")", x.worked(what), want[what]);
        }
    }

    private static void latestRun() {
        PlanRules x = started();
        x.run(0);
        x.clear(0);
        x.row(0, 8, 8, 8);
        Check.due("the ROWS stay as given", x.member(2, 2), 7);
        Check.due("run(-1)", x.run(-1), BAD);
        Check.due("run(4)", x.run(4), BAD);
        Check.due("a refused run changes nothing", x.member(0, 1), 2);
        isWorked(x, 0, 0, 1, -1);
        int zero = x.formula(5, 0, 5);
        int fails = x.node(1, 0, 0, 0, zero);
        Check.due("a run that FAILS", x.run(fails), -11);
        Check.due("has no ROWS", x.member(0, 0), 0);
        Check.due("run(99)", x.run(99), BAD);
        isWorked(x, 1, 3, 2, fails);
        Check.due("run(0)", x.run(0), 1);
        Check.due("the new ROW", x.member(0, 0), 8);
        Check.due("none behind it", x.member(1, 0), 0);
        isWorked(x, 0, 0, 1, -1);
        int once = x.node(7, x.node(7, 1, 0, 0, 0), 0, 0, 0);
        x.run(once);
        x.rewrite(once, 14);
        x.sweep(once, 9);
        x.table(0, 4);
        Check.due("no other call changes them", x.member(1, 1), 4);
        Check.due("no other call changes them", x.worked(2), 3);
    }

    /** As many ROWS in one RUN as 60 NODES can give. */
    private static void manyRows() {
        PlanRules x = new PlanRules();
        for (int i = 0; i < 6; i++) {
            x.row(0, i, 0, 0);
        }
        x.formula(0, 0, 0);
        x.formula(1, 1, 0);
        x.formula(2, 0, 1);
        int source = x.node(0, 0, 0, 0, 0);
        int square = x.node(4, source, source, 1, 2);
        int two = x.node(5, square, square, 0, 0);
        int most = x.node(5, two, x.node(8, square, 0, 0, 28), 0, 0);
        for (int n = most + 1; n < 60; n++) {
            most = x.node(2, most, 0, 0, 2);
        }
        Check.due("100 ROWS through all NODES", x.run(59), 100);
        Check.due("the first", x.member(0, 0), 55);
        Check.due("the last", x.member(99, 0), 4 + 55);
        Check.due("none behind it", x.member(100, 0), 0);
        Check.due("worked(1)", x.worked(1), 55 * 100 * 3);
        Check.due("worked(2)", x.worked(2), 60);
        Check.due("a small one after it", x.run(0), 6);
        Check.due("its last", x.member(5, 0), 5);
    }

    private static void wrongOnes() {
        PlanRules x = started();
        for (int wrong : new int[] {-1, 4, 60, MIN, MAX}) {
            Check.due("run(" + wrong + ")", x.run(wrong), BAD);
            Check.due("worked(" + wrong + ")", x.worked(wrong), BAD);
        }
        x.run(0);
        for (int wrong : new int[] {-1, 3, 100, MIN, MAX}) {
            Check.due("member(" + wrong + ", 0)", x.member(wrong, 0), 0);
        }
        for (int wrong : new int[] {-1, 6, MIN, MAX}) {
            Check.due("member(0, " + wrong + ")", x.member(0, wrong), 0);
            Check.due("member(1, " + wrong + ")", x.member(1, wrong), 0);
        }
    }
}
