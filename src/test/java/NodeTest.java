/** Promises 7 and 8: node, told. */
public final class NodeTest {
    private static final int BAD = PlanRules.BAD, FULL = PlanRules.FULL;
    private static final int MIN = Integer.MIN_VALUE, MAX = Integer.MAX_VALUE;
    private static final int ODD = -77;

    public static void main(String[] args) {
        eachKind();
        wrongOnes();
        wrongTold();
        bounds();
        room();
        mayFail();
        Check.end();
    }

    /** SOURCE 0, SOURCE 1 as NODES 0, 1; MEMBER 0, MEMBER 0 / MEMBER 0 as FORMULAS 0, 1. */
    private static PlanRules started() {
        PlanRules x = new PlanRules();
        x.node(0, 0, 0, 0, 0);
        x.node(0, 1, 0, 0, 0);
        x.formula(0, 0, 0);
        x.formula(5, 0, 0);
        return x;
    }

    private static void eachKind() {
        PlanRules x = started();
        Check.due("SOURCE", x.node(0, 3, ODD, ODD, ODD), 2);
        told(x, 2, 0, 3, 0, 0, 0, 6, 0);
        Check.due("FILTER", x.node(1, 1, ODD, ODD, 1), 3);
        told(x, 3, 1, 1, 0, 0, 1, 6, 1);
        Check.due("SET", x.node(2, 1, ODD, 5, 1), 4);
        told(x, 4, 2, 1, 0, 5, 1, 6, 1);
        Check.due("KEEP", x.node(3, 1, ODD, ODD, 63), 5);
        told(x, 5, 3, 1, 0, 0, 63, 6, 0);
        Check.due("JOIN", x.node(4, 1, 2, 4, 63), 6);
        told(x, 6, 4, 1, 2, 4, 63, 36, 0);
        Check.due("UNION", x.node(5, 1, 2, ODD, ODD), 7);
        told(x, 7, 5, 1, 2, 0, 0, 12, 0);
        Check.due("FOLD", x.node(6, 7, ODD, 5, 4), 8);
        told(x, 8, 6, 7, 0, 5, 4, 12, 0);
        Check.due("ONCE", x.node(7, 7, ODD, ODD, ODD), 9);
        told(x, 9, 7, 7, 0, 0, 0, 12, 0);
        Check.due("FIRST", x.node(8, 7, ODD, ODD, 5), 10);
        told(x, 10, 8, 7, 0, 0, 5, 5, 0);
        Check.due("KEEP nothing", x.node(3, 1, 0, 0, 0), 11);
        Check.due("FIRST of none", x.node(8, 1, 0, 0, 0), 12);
        told(x, 12, 8, 1, 0, 0, 0, 0, 0);
        Check.due("FIRST of 100", x.node(8, 1, 0, 0, 100), 13);
        told(x, 13, 8, 1, 0, 0, 100, 6, 0);
    }

    private static void told(PlanRules x, int n, int... want) {
        for (int what = 0; what < want.length; what++) {
            Check.due("told(" + n + ", " + what + ")", x.told(n, what), want[what]);
        }
    }

    private static void wrongOnes() {
        PlanRules x = started();
        for (int kind : new int[] {-1, 9, MIN, MAX}) {
            Check.due("kind " + kind, x.node(kind, 0, 0, 0, 1), BAD);
        }
        for (int source : new int[] {-1, 4, MIN, MAX}) {
            Check.due("SOURCE " + source, x.node(0, source, 0, 0, 0), BAD);
        }
        for (int wrong : new int[] {-1, 2, 60, MIN, MAX}) {
            for (int kind = 1; kind < 9; kind++) {
                Check.due("kind " + kind + " on NODE " + wrong, x.node(kind, wrong, 0, 0, 1), BAD);
            }
            Check.due("JOIN with NODE " + wrong, x.node(4, 0, wrong, 0, 1), BAD);
            Check.due("UNION with NODE " + wrong, x.node(5, 0, wrong, 0, 1), BAD);
            Check.due("FILTER by FORMULA " + wrong, x.node(1, 0, 0, 0, wrong), BAD);
            Check.due("SET to FORMULA " + wrong, x.node(2, 0, 0, 0, wrong), BAD);
        }
        for (int wrong : new int[] {-1, 6, MIN, MAX}) {
            Check.due("SET of MEMBER " + wrong, x.node(2, 0, 0, wrong, 1), BAD);
            Check.due("JOIN by MEMBER " + wrong, x.node(4, 0, 1, wrong, 1), BAD);
            Check.due("FOLD by MEMBER " + wrong, x.node(6, 0, 0, wrong, 1), BAD);
            Check.due("FOLD of MEMBER " + wrong, x.node(6, 0, 0, 1, wrong), BAD);
        }
        for (int m = 0; m < 6; m++) {
            Check.due("FOLD by and of MEMBER " + m, x.node(6, 0, 0, m, m), BAD);
        }
        for (int wrong : new int[] {-1, 64, MIN, MAX}) {
            Check.due("KEEP of the set " + wrong, x.node(3, 0, 0, 0, wrong), BAD);
            Check.due("JOIN of the set " + wrong, x.node(4, 0, 1, 0, wrong), BAD);
        }
        for (int wrong : new int[] {-1, 101, MIN, MAX}) {
            Check.due("FIRST " + wrong, x.node(8, 0, 0, 0, wrong), BAD);
        }
        Check.due("what is refused changes nothing", x.count(1), 2);
    }

    private static void wrongTold() {
        PlanRules x = started();
        for (int wrong : new int[] {-1, 2, 60, MIN, MAX}) {
            Check.due("told(" + wrong + ", 0)", x.told(wrong, 0), BAD);
        }
        for (int wrong : new int[] {-1, 7, MIN, MAX}) {
            Check.due("told(0, " + wrong + ")", x.told(0, wrong), BAD);
        }
    }

    private static void bounds() {
        PlanRules x = started();
        int square = x.node(4, 0, 1, 0, 1);
        int seventyTwo = x.node(5, square, square, 0, 0);
        int ninety = x.node(5, seventyTwo, x.node(8, square, 0, 0, 18), 0, 0);
        Check.due("BOUND of 72 + 18", x.told(ninety, 5), 90);
        int four = x.node(8, 0, 0, 0, 4);
        int hundred = x.node(5, ninety, x.node(5, 0, four, 0, 0), 0, 0);
        Check.due("BOUND of 90 + 10", x.told(hundred, 5), 100);
        int one = x.node(8, 0, 0, 0, 1);
        int none = x.node(8, 0, 0, 0, 0);
        int made = x.count(1);
        Check.due("BOUND of 100 + 1", x.node(5, hundred, one, 0, 0), FULL);
        Check.due("BOUND of 72 + 36", x.node(5, seventyTwo, square, 0, 0), FULL);
        Check.due("BOUND of 36 times 6", x.node(4, square, 0, 0, 1), FULL);
        Check.due("BOUND of 100 times 100", x.node(4, hundred, hundred, 0, 1), FULL);
        Check.due("a wrong one is BAD first", x.node(4, square, square, 6, 1), BAD);
        Check.due("what is refused changes nothing", x.count(1), made);
        Check.due("BOUND of 100 times 1", x.told(x.node(4, hundred, one, 0, 1), 5), 100);
        Check.due("BOUND of 100 times 0", x.told(x.node(4, hundred, none, 0, 1), 5), 0);
        Check.due("BOUND of 100 + 0", x.told(x.node(5, hundred, none, 0, 0), 5), 100);
        Check.due("BOUND of the first 99", x.told(x.node(8, hundred, 0, 0, 99), 5), 99);
        Check.due("BOUND of a FILTER", x.told(x.node(1, hundred, 0, 0, 0), 5), 100);
    }

    private static void room() {
        PlanRules x = started();
        for (int n = 2; n < 60; n++) {
            Check.due("NODE " + n, x.node(7, n - 1, 0, 0, 0), n);
        }
        Check.due("NODE 60", x.node(7, 0, 0, 0, 0), FULL);
        Check.due("NODE 60, a SOURCE", x.node(0, 0, 0, 0, 0), FULL);
        Check.due("NODE 60, a wrong one", x.node(9, 0, 0, 0, 0), BAD);
        Check.due("count(1)", x.count(1), 60);
        x.row(1, 3, 4, 5);
        Check.due("run of a chain of 59", x.run(59), 1);
        Check.due("worked(2)", x.worked(2), 59);
    }

    private static void mayFail() {
        PlanRules x = started();
        int risky = x.node(1, 0, 0, 0, 1);
        int above = x.node(7, risky, 0, 0, 0);
        Check.due("above a risky one", x.told(above, 6), 1);
        Check.due("UNION on the left", x.told(x.node(5, above, 1, 0, 0), 6), 1);
        Check.due("UNION on the right", x.told(x.node(5, 1, above, 0, 0), 6), 1);
        Check.due("JOIN on the right", x.told(x.node(4, 1, above, 0, 0), 6), 1);
        Check.due("b is not looked at", x.told(x.node(7, 0, risky, 0, 1), 6), 0);
        Check.due("v is no FORMULA", x.told(x.node(3, 0, 0, 0, 1), 6), 0);
        Check.due("FIRST of none", x.told(x.node(8, risky, 0, 0, 0), 6), 1);
        Check.due("a SOURCE with the number of a risky NODE",
            x.told(x.node(0, risky, 0, 0, 0), 6), 0);
    }
}
