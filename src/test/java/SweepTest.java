/** Promise 14: sweep. */
public final class SweepTest {
    private static final int BAD = PlanRules.BAD;
    private static final int MIN = Integer.MIN_VALUE, MAX = Integer.MAX_VALUE;
    private static final int SOURCE = 0, FILTER = 1, SET = 2, KEEP = 3, JOIN = 4, UNION = 5, FOLD = 6, ONCE = 7, FIRST = 8;

    public static void main(String[] args) {
        atMost();
        leastNumberFirst();
        leastRuleFirst();
        onlyBelow();
        tillNoneFits();
        tillNoRoom();
        noRoomForFormula();
        wrongOnes();
        Check.end();
    }

    private static PlanRules started() {
        PlanRules x = new PlanRules();
        for (int m = 0; m < 6; m++) {
            x.formula(0, m, 0);
        }
        x.node(SOURCE, 0, 0, 0, 0);
        x.node(SOURCE, 1, 0, 0, 0);
        return x;
    }

    private static int chainOfOnces(PlanRules x, int length) {
        int n = 0;
        for (int i = 0; i < length; i++) {
            n = x.node(ONCE, n, 0, 0, 0);
        }
        return n;
    }

    private static void atMost() {
        PlanRules x = started();
        int top = chainOfOnces(x, 10);
        Check.due("0 times", x.sweep(top, 0), 0);
        Check.due("count(2)", x.count(2), 0);
        Check.due("3 times", x.sweep(top, 3), 3);
        Check.due("count(2)", x.count(2), 3);
        Check.due("100 times", x.sweep(top, 100), 6);
        Check.due("once more", x.sweep(top, 100), 0);
        Check.due("count(2)", x.count(2), 9);
        Check.due("it stands above the SOURCE", x.told(top, 1), 0);
    }

    private static void leastNumberFirst() {
        PlanRules x = started();
        int top = chainOfOnces(x, 5);
        x.sweep(top, 1);
        Check.due("NODE 3 is first", x.told(3, 1), 0);
        Check.due("NODE 4 stays", x.told(4, 1), 3);
        Check.due("NODE 6 stays", x.told(6, 1), 5);
        PlanRules y = started();
        int filter = y.node(FILTER, y.node(SET, 0, 0, 3, 1), 0, 0, 2);
        int upper = y.node(FILTER, filter, 0, 0, 1);
        Check.due("sweep", y.sweep(upper, 1), 1);
        Check.due("the lower number is rewritten", y.told(filter, 0), SET);
        Check.due("the upper one stays", y.told(upper, 0), FILTER);
        Check.due("sweep", y.sweep(upper, 1), 1);
        Check.due("then the upper one", y.told(upper, 0), SET);
        Check.due("sweep", y.sweep(upper, 1), 1);
        Check.due("then the new FILTERS are merged", y.count(0), 7);
        Check.due("till none is", y.sweep(upper, 100), 0);
        backward();
    }

    /** A rewritten NODE stands above ones with greater numbers, which come later all the same. */
    private static void backward() {
        PlanRules x = started();
        int union = x.node(UNION, 0, 1, 0, 0);
        int onceUnion = x.node(ONCE, union, 0, 0, 0);
        int top = x.node(ONCE, onceUnion, 0, 0, 0);
        Check.due("ONCE (UNION x y) first", x.sweep(top, 1), 1);
        Check.due("the UNION is new", x.told(onceUnion, 1), top + 3);
        Check.due("then ONCE (ONCE x)", x.sweep(top, 1), 1);
        Check.due("top", x.told(top, 1), top + 3);
        Check.due("then none", x.sweep(top, 1), 0);
    }

    private static void leastRuleFirst() {
        PlanRules x = started();
        int number = x.formula(1, 1, 0);
        int n = x.node(FILTER, x.node(JOIN, 0, 1, 0, 6), 0, 0, number);
        Check.due("fits 2", x.fits(n, 2), 1);
        Check.due("fits 3", x.fits(n, 3), 1);
        Check.due("sweep", x.sweep(n, 1), 1);
        Check.due("a is new", x.told(n, 1), n + 1);
        Check.due("b is not", x.told(n, 2), 1);
    }

    private static void onlyBelow() {
        PlanRules x = started();
        int low = chainOfOnces(x, 3);
        int beside = x.node(FIRST, x.node(FIRST, 0, 0, 0, 2), 0, 0, 1);
        int above = x.node(UNION, low, beside, 0, 0);
        Check.due("sweep of a part", x.sweep(beside, 100), 1);
        Check.due("the other part stays", x.told(low, 1), low - 1);
        Check.due("sweep of a SOURCE", x.sweep(0, 100), 0);
        Check.due("sweep of all", x.sweep(above, 100), 2);
        Check.due("the other part", x.told(low, 1), 0);
        int right = x.node(ONCE, x.node(ONCE, 1, 0, 0, 0), 0, 0, 0);
        Check.due("below on the right", x.sweep(x.node(JOIN, 0, right, 0, 0), 100), 1);
    }

    private static void tillNoneFits() {
        PlanRules x = started();
        for (int i = 0; i < 6; i++) {
            x.row(0, i % 2, i, 1);
            x.row(1, i % 3, i * i, 2);
        }
        int union = x.node(UNION, 0, 1, 0, 0);
        int fold = x.node(FOLD, x.node(KEEP, union, 0, 0, 3), 0, 0, 1);
        int top = x.node(FILTER, fold, 0, 0, 0);
        int rows = x.run(top);
        int sum = x.member(0, 1);
        int times = x.sweep(top, 100);
        Check.due("count(2)", x.count(2), times);
        Check.due("the same ROWS", x.run(top), rows);
        Check.due("the same sum", x.member(0, 1), sum);
        Check.due("the top is a FOLD now", x.told(top, 0), FOLD);
        Check.due("none is left", x.sweep(top, 1), 0);
        while (x.count(1) < 60) {
            x.node(SOURCE, 0, 0, 0, 0);
        }
        Check.due("none is left among 60", x.sweep(top, 100), 0);
    }

    private static void tillNoRoom() {
        PlanRules x = started();
        int once = x.node(ONCE, x.node(UNION, 0, 1, 0, 0), 0, 0, 0);
        int first = x.node(FIRST, x.node(FIRST, once, 0, 0, 3), 0, 0, 2);
        while (x.count(1) < 58) {
            x.node(SOURCE, 0, 0, 0, 0);
        }
        Check.due("no room for the first: none", x.sweep(first, 100), 0);
        Check.due("what comes later stays", x.told(first, 4), 2);
        Check.due("what comes later stays", x.told(first, 1), first - 1);
        Check.due("count(1)", x.count(1), 58);
        Check.due("count(2)", x.count(2), 0);
        PlanRules y = started();
        int low = y.node(ONCE, y.node(ONCE, 0, 0, 0, 0), 0, 0, 0);
        int top = y.node(ONCE, y.node(UNION, low, 1, 0, 0), 0, 0, 0);
        while (y.count(1) < 58) {
            y.node(SOURCE, 0, 0, 0, 0);
        }
        Check.due("room for the first alone", y.sweep(top, 100), 1);
        Check.due("count(2)", y.count(2), 1);
    }

    private static void noRoomForFormula() {
        PlanRules x = started();
        int filters = x.node(FILTER, x.node(FILTER, 0, 0, 0, 1), 0, 0, 2);
        int top = x.node(ONCE, x.node(ONCE, filters, 0, 0, 0), 0, 0, 0);
        while (x.count(0) < 40) {
            x.formula(1, 0, 0);
        }
        Check.due("no room for a FORMULA", x.sweep(top, 100), 0);
        Check.due("what comes later stays", x.told(top, 1), top - 1);
    }

    private static void wrongOnes() {
        PlanRules x = started();
        int top = chainOfOnces(x, 2);
        for (int wrong : new int[] {-1, 101, MIN, MAX}) {
            Check.due("sweep(top, " + wrong + ")", x.sweep(top, wrong), BAD);
        }
        for (int wrong : new int[] {-1, top + 1, 60, MIN, MAX}) {
            Check.due("sweep(" + wrong + ", 1)", x.sweep(wrong, 1), BAD);
        }
        Check.due("what is refused changes nothing", x.count(2), 0);
        Check.due("100 is as told", x.sweep(top, 100), 1);
    }
}
