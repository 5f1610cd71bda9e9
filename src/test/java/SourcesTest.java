/** Promises 1 to 4 and 15: a new object, row, clear, table, count. */
public final class SourcesTest {
    private static final int BAD = PlanRules.BAD, FULL = PlanRules.FULL;

    public static void main(String[] args) {
        newObject();
        rowsOfSources();
        clearing();
        items();
        counting();
        Check.end();
    }

    private static void newObject() {
        PlanRules x = new PlanRules();
        for (int what = 0; what < 4; what++) {
            Check.due("count(" + what + ") of a new object", x.count(what), 0);
        }
        for (int source = 0; source < 4; source++) {
            Check.due("clear(" + source + ") of a new object", x.clear(source), 0);
        }
        Check.due("formulaOf(0, 0) of a new object", x.formulaOf(0, 0), BAD);
        Check.due("told(0, 0) of a new object", x.told(0, 0), BAD);
        Check.due("run(0) of a new object", x.run(0), BAD);
        Check.due("fits(0, 0) of a new object", x.fits(0, 0), BAD);
        Check.due("rewrite(0, 0) of a new object", x.rewrite(0, 0), BAD);
        Check.due("sweep(0, 0) of a new object", x.sweep(0, 0), BAD);
        Check.due("member(0, 0) of a new object", x.member(0, 0), 0);
        Check.due("worked(0) of a new object", x.worked(0), 0);
        Check.due("worked(1) of a new object", x.worked(1), 0);
        Check.due("worked(2) of a new object", x.worked(2), 0);
        Check.due("worked(3) of a new object", x.worked(3), -1);
        for (int item = 0; item < 8; item++) {
            Check.due("ITEM " + item + " of a new object", itemOf(x, item), 0);
        }
        PlanRules y = new PlanRules();
        y.row(0, 1, 1, 1);
        Check.due("a new object has nothing of another one", new PlanRules().count(3), 0);
    }

    private static void rowsOfSources() {
        PlanRules x = new PlanRules();
        for (int source = 0; source < 4; source++) {
            for (int i = 1; i <= 6; i++) {
                Check.due("row " + i, x.row(source, 100 * source + i, -i, Integer.MIN_VALUE + i), i);
            }
            Check.due("row 7", x.row(source, 9, 9, 9), FULL);
        }
        for (int source : new int[] {-1, 4, Integer.MIN_VALUE, Integer.MAX_VALUE}) {
            Check.due("row(" + source + ")", x.row(source, 0, 0, 0), BAD);
        }
        Check.due("count(3)", x.count(3), 24);
        for (int source = 0; source < 4; source++) {
            int n = x.node(0, source, 0, 0, 0);
            Check.due("run of SOURCE " + source, x.run(n), 6);
            for (int i = 0; i < 6; i++) {
                int[] want = {100 * source + i + 1, -i - 1, Integer.MIN_VALUE + i + 1, 0, 0, 0};
                for (int m = 0; m < 6; m++) {
                    Check.due("SOURCE " + source + " member(" + i + ", " + m + ")", x.member(i, m), want[m]);
                }
            }
        }
    }

    private static void clearing() {
        PlanRules x = new PlanRules();
        for (int source = 0; source < 4; source++) {
            for (int i = 0; i <= source; i++) {
                x.row(source, i, i, i);
            }
        }
        int n = x.node(0, 2, 0, 0, 0);
        Check.due("clear(2)", x.clear(2), 3);
        Check.due("clear(2) once more", x.clear(2), 0);
        Check.due("run of a SOURCE without ROWS", x.run(n), 0);
        Check.due("the others stay", x.count(3), 7);
        Check.due("row after clear", x.row(2, 7, 8, 9), 1);
        x.run(n);
        Check.due("the first ROW is the new one", x.member(0, 1), 8);
        for (int source : new int[] {-1, 4, Integer.MIN_VALUE, Integer.MAX_VALUE}) {
            Check.due("clear(" + source + ")", x.clear(source), BAD);
        }
        Check.due("what is refused changes nothing", x.count(3), 8);
    }

    private static void items() {
        PlanRules x = new PlanRules();
        for (int i = 0; i < 8; i++) {
            Check.due("table(" + i + ")", x.table(i, 10 * i - 35), 1);
        }
        for (int i : new int[] {-1, 8, Integer.MIN_VALUE, Integer.MAX_VALUE}) {
            Check.due("table(" + i + ")", x.table(i, 1), BAD);
        }
        for (int i = 0; i < 8; i++) {
            Check.due("ITEM " + i, itemOf(x, i), 10 * i - 35);
        }
        x.table(3, 4);
        Check.due("ITEM 3 anew", itemOf(x, 3), 4);
    }

    private static int itemOf(PlanRules x, int i) {
        x.clear(0);
        x.row(0, 0, 0, 0);
        int f = x.formula(6, x.formula(1, i, 0), 0);
        int n = x.node(2, x.node(0, 0, 0, 0, 0), 0, 5, f);
        Check.due("run for an ITEM", x.run(n), 1);
        return x.member(0, 5);
    }

    private static void counting() {
        PlanRules x = new PlanRules();
        x.formula(0, 0, 0);
        x.formula(1, 5, 0);
        x.formula(99, 0, 0);
        x.row(0, 1, 2, 3);
        x.row(3, 1, 2, 3);
        x.row(3, 1, 2, 3);
        x.node(0, 0, 0, 0, 0);
        x.node(7, 0, 0, 0, 0);
        x.node(7, 1, 0, 0, 0);
        x.node(7, 2, 0, 0, 0);
        Check.due("count(0)", x.count(0), 2);
        Check.due("count(1)", x.count(1), 4);
        Check.due("count(2)", x.count(2), 0);
        Check.due("count(3)", x.count(3), 3);
        Check.due("rewrite(3, 14)", x.rewrite(3, 14), 4);
        Check.due("rewrite(1, 14)", x.rewrite(1, 14), PlanRules.NO);
        Check.due("count(2) after one", x.count(2), 1);
        Check.due("sweep(3, 100)", x.sweep(3, 100), 1);
        Check.due("count(2) after a sweep", x.count(2), 2);
        for (int what : new int[] {-1, 4, Integer.MIN_VALUE, Integer.MAX_VALUE}) {
            Check.due("count(" + what + ")", x.count(what), BAD);
        }
    }
}
