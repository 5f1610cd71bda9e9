/** Promises 5 and 6: formula, formulaOf; and what each kind gives. */
public final class FormulaTest {
    private static final int BAD = PlanRules.BAD, FULL = PlanRules.FULL;
    private static final int MIN = Integer.MIN_VALUE, MAX = Integer.MAX_VALUE;

    public static void main(String[] args) {
        wrongOnes();
        notLookedAt();
        room();
        sizes();
        readsAndFails();
        values();
        failures();
        Check.end();
    }

    private static void wrongOnes() {
        PlanRules x = new PlanRules();
        Check.due("SUM of none", x.formula(2, 0, 0), BAD);
        Check.due("formula(0, 5, 0)", x.formula(0, 5, 0), 0);
        for (int kind : new int[] {-1, 12, MIN, MAX}) {
            Check.due("formula(" + kind + ", 0, 0)", x.formula(kind, 0, 0), BAD);
        }
        for (int m : new int[] {-1, 6, MIN, MAX}) {
            Check.due("formula(0, " + m + ", 0)", x.formula(0, m, 0), BAD);
        }
        for (int kind = 2; kind < 12; kind++) {
            for (int wrong : new int[] {-1, 1, MIN, MAX}) {
                Check.due("formula(" + kind + ", " + wrong + ", 0)", x.formula(kind, wrong, 0), BAD);
                if (kind != 6 && kind != 11) {
                    Check.due("formula(" + kind + ", 0, " + wrong + ")", x.formula(kind, 0, wrong), BAD);
                }
            }
        }
        Check.due("what is refused changes nothing", x.count(0), 1);
    }

    private static void notLookedAt() {
        PlanRules x = new PlanRules();
        Check.due("formula(0, 0, -9)", x.formula(0, 0, -9), 0);
        Check.due("formula(1, MIN, 99)", x.formula(1, MIN, 99), 1);
        Check.due("formula(6, 1, 99)", x.formula(6, 1, 99), 2);
        Check.due("formula(11, 0, MIN)", x.formula(11, 0, MIN), 3);
        Check.due("it reads nothing of b", x.formulaOf(2, 0), 0);
    }

    private static void room() {
        PlanRules x = new PlanRules();
        for (int f = 0; f < 40; f++) {
            Check.due("formula " + f, x.formula(1, f, 0), f);
        }
        Check.due("formula 40", x.formula(1, 0, 0), FULL);
        Check.due("a wrong one is BAD first", x.formula(12, 0, 0), BAD);
        Check.due("a wrong part is BAD first", x.formula(2, 0, 40), BAD);
        Check.due("count(0)", x.count(0), 40);
    }

    private static void sizes() {
        PlanRules x = new PlanRules();
        x.formula(0, 0, 0);
        for (int size = 2; size <= 30; size++) {
            Check.due("SIZE " + size, x.formula(11, size - 2, 0), size - 1);
        }
        Check.due("SIZE 31", x.formula(11, 29, 0), FULL);
        Check.due("SIZE 31 of an ITEM", x.formula(6, 29, 0), FULL);
        Check.due("SIZE 1 + 29 + 1", x.formula(2, 28, 0), FULL);
        Check.due("SIZE 1 + 28 + 1", x.formula(2, 27, 0), 30);
        Check.due("SIZE 1 + 1 + 28", x.formula(9, 0, 27), 31);
        Check.due("SIZE 1 + 15 + 15", x.formula(2, 14, 14), FULL);
        Check.due("SIZE 1 + 14 + 14", x.formula(2, 13, 13), 32);
        Check.due("a number has no parts", x.formula(1, 29, 29), 33);
        Check.due("deep in the chain", valueOf(x, 29, 0, 0, 0), 1);
        Check.due("formulas worked", x.worked(1), 30);
    }

    private static void readsAndFails() {
        PlanRules x = new PlanRules();
        for (int m = 0; m < 6; m++) {
            x.formula(0, m, 0);
            Check.due("READS of MEMBER " + m, x.formulaOf(m, 0), 1 << m);
            Check.due("MEMBER " + m + " may not FAIL", x.formulaOf(m, 1), 0);
        }
        int number = x.formula(1, 3, 0);
        Check.due("READS of a number", x.formulaOf(number, 0), 0);
        for (int kind = 2; kind < 12; kind++) {
            int f = x.formula(kind, 1, 4);
            boolean one = kind == 6 || kind == 11;
            Check.due("READS of kind " + kind, x.formulaOf(f, 0), one ? 2 : 18);
            Check.due("MAY FAIL of kind " + kind, x.formulaOf(f, 1), kind == 5 || kind == 6 ? 1 : 0);
        }
        int zero = x.formula(1, 0, 0);
        int item = x.formula(6, 5, 0);
        int both = x.formula(9, zero, item);
        Check.due("READS what is never worked", x.formulaOf(both, 0), 32);
        Check.due("MAY FAIL by what is never worked", x.formulaOf(both, 1), 1);
        int byOne = x.formula(5, 0, number);
        Check.due("MAY FAIL by a division by 3", x.formulaOf(byOne, 1), 1);
        Check.due("MAY FAIL by its first part", x.formulaOf(x.formula(8, item, 0), 1), 1);
        Check.due("MAY FAIL by a part of its part", x.formulaOf(x.formula(11, both, 0), 1), 1);
        for (int wrong : new int[] {-1, 2, MIN, MAX}) {
            Check.due("formulaOf(0, " + wrong + ")", x.formulaOf(0, wrong), BAD);
        }
        for (int wrong : new int[] {-1, x.count(0), 40, MIN, MAX}) {
            Check.due("formulaOf(" + wrong + ", 0)", x.formulaOf(wrong, 0), BAD);
        }
    }

    private static void values() {
        int[][] pairs = {{0, 0}, {1, 0}, {0, 1}, {5, 3}, {-5, 3}, {5, -3}, {-5, -3}, {7, 7}, {MIN, -1}, {MAX, 1},
            {MIN, MAX}, {MAX, MIN}, {MIN, MIN}, {65536, 65536}, {-1, 2}};
        for (int[] pair : pairs) {
            int a = pair[0];
            int b = pair[1];
            String of = " of " + a + ", " + b;
            Check.due("MEMBER" + of, pairValue(0, a, b), a);
            Check.due("number" + of, pairValue(1, a, b), 0);
            Check.due("SUM" + of, pairValue(2, a, b), a + b);
            Check.due("DIFFERENCE" + of, pairValue(3, a, b), a - b);
            Check.due("PRODUCT" + of, pairValue(4, a, b), a * b);
            if (b != 0) {
                Check.due("QUOTIENT" + of, pairValue(5, a, b), (int) ((long) a / b));
            }
            Check.due("BELOW" + of, pairValue(7, a, b), a < b ? 1 : 0);
            Check.due("SAME" + of, pairValue(8, a, b), a == b ? 1 : 0);
            Check.due("BOTH" + of, pairValue(9, a, b), a != 0 && b != 0 ? 1 : 0);
            Check.due("EITHER" + of, pairValue(10, a, b), a != 0 || b != 0 ? 1 : 0);
            Check.due("NOT" + of, pairValue(11, a, b), a == 0 ? 1 : 0);
        }
    }

    /** The value of a FORMULA of this kind on MEMBERS 0 and 1. */
    private static int pairValue(int kind, int a, int b) {
        PlanRules x = new PlanRules();
        x.formula(0, 0, 0);
        x.formula(0, 1, 0);
        return valueOf(x, x.formula(kind, 0, 1), a, b, 0);
    }

    private static int valueOf(PlanRules x, int f, int a, int b, int c) {
        x.clear(3);
        x.row(3, a, b, c);
        int n = x.node(2, x.node(0, 3, 0, 0, 0), 0, 4, f);
        Check.due("run for a value", x.run(n), 1);
        return x.member(0, 4);
    }

    private static void failures() {
        PlanRules x = new PlanRules();
        x.formula(0, 0, 0);
        x.formula(0, 1, 0);
        int quotient = x.formula(5, 0, 1);
        int item = x.formula(6, 0, 0);
        int first = x.formula(2, quotient, item);
        int second = x.formula(2, item, quotient);
        int both = x.formula(9, 1, quotient);
        int zero = x.formula(11, 1, 0);
        int either = x.formula(10, zero, quotient);
        Check.due("ZERO", ends(x, quotient, 5, 0), -11);
        Check.due("0 / 0", ends(x, quotient, 0, 0), -11);
        for (int i : new int[] {-1, 8, MIN, MAX}) {
            Check.due("INDEX " + i, ends(x, item, i, 1), -12);
        }
        Check.due("INDEX 0", ends(x, item, 0, 1), 1);
        Check.due("INDEX 7", ends(x, item, 7, 1), 1);
        Check.due("a ahead of b: ZERO", ends(x, first, 9, 0), -11);
        Check.due("a ahead of b: INDEX", ends(x, second, 9, 0), -12);
        Check.due("BOTH hides b", ends(x, both, 5, 0), 1);
        Check.due("EITHER hides b", ends(x, either, 5, 0), 1);
        Check.due("EITHER shows b", ends(x, either, 5, 1), 1);
        int late = x.formula(9, 0, quotient);
        Check.due("BOTH shows b", ends(x, late, 5, 0), -11);
    }

    private static int ends(PlanRules x, int f, int a, int b) {
        x.clear(3);
        x.row(3, a, b, 0);
        return x.run(x.node(2, x.node(0, 3, 0, 0, 0), 0, 4, f));
    }
}
