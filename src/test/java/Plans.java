/** Short names for the calls that tell a plan, and texts of what stands and of what it gives. */
final class Plans {
    static final int BAD = PlanRules.BAD, FULL = PlanRules.FULL, NO = PlanRules.NO;
    static final int MIN = Integer.MIN_VALUE, MAX = Integer.MAX_VALUE;
    static final int SOURCE = 0, FILTER = 1, SET = 2, KEEP = 3, JOIN = 4, UNION = 5, FOLD = 6, ONCE = 7, FIRST = 8;
    static final int SUM = 2, DIFFERENCE = 3, PRODUCT = 4, QUOTIENT = 5, ITEM = 6, BELOW = 7, SAME = 8, BOTH = 9,
        EITHER = 10, NOT = 11;

    private static final String[] NAMES = {"S", "FILTER", "SET", "KEEP", "JOIN", "UNION", "FOLD", "ONCE", "FIRST"};

    private Plans() {
    }

    static int member(PlanRules x, int m) {
        return x.formula(0, m, 0);
    }

    static int number(PlanRules x, int v) {
        return x.formula(1, v, 0);
    }

    /** A new FORMULA that READS just this set, and may not FAIL: 11 FORMULAS at most, SIZE 11 at most. */
    static int reading(PlanRules x, int set) {
        int f = -1;
        for (int m = 0; m < 6; m++) {
            if ((set >> m & 1) == 1) {
                int one = member(x, m);
                f = f < 0 ? one : x.formula(SUM, f, one);
            }
        }
        return f < 0 ? number(x, 1) : f;
    }

    /** A new FORMULA that READS just this set, and MAY FAIL, though it never does. */
    static int risky(PlanRules x, int set) {
        return x.formula(QUOTIENT, reading(x, set), number(x, 1));
    }

    static int source(PlanRules x, int a) {
        return x.node(SOURCE, a, 0, 0, 0);
    }

    static int filter(PlanRules x, int a, int f) {
        return x.node(FILTER, a, 0, 0, f);
    }

    static int set(PlanRules x, int a, int m, int f) {
        return x.node(SET, a, 0, m, f);
    }

    static int keep(PlanRules x, int a, int s) {
        return x.node(KEEP, a, 0, 0, s);
    }

    static int join(PlanRules x, int a, int b, int m, int s) {
        return x.node(JOIN, a, b, m, s);
    }

    static int union(PlanRules x, int a, int b) {
        return x.node(UNION, a, b, 0, 0);
    }

    static int fold(PlanRules x, int a, int m, int k) {
        return x.node(FOLD, a, 0, m, k);
    }

    static int once(PlanRules x, int a) {
        return x.node(ONCE, a, 0, 0, 0);
    }

    static int first(PlanRules x, int a, int n) {
        return x.node(FIRST, a, 0, 0, n);
    }

    /** What stands: kind(a, b; m; v), what a kind has not left out. */
    static String plan(PlanRules x, int n) {
        int kind = x.told(n, 0);
        if (kind == SOURCE) {
            return NAMES[SOURCE] + x.told(n, 1);
        }
        StringBuilder text = new StringBuilder(NAMES[kind]).append('(').append(plan(x, x.told(n, 1)));
        if (kind == JOIN || kind == UNION) {
            text.append(", ").append(plan(x, x.told(n, 2)));
        }
        if (kind == SET || kind == JOIN || kind == FOLD) {
            text.append("; ").append(x.told(n, 3));
        }
        if (kind != UNION && kind != ONCE) {
            text.append("; ").append(x.told(n, 4));
        }
        return text.append(')').toString();
    }

    /** What told() answers, 0 to 6. */
    static String told(PlanRules x, int n) {
        StringBuilder text = new StringBuilder().append(x.told(n, 0));
        for (int what = 1; what < 7; what++) {
            text.append(' ').append(x.told(n, what));
        }
        return text.toString();
    }

    /** What a run answers, and its ROWS. */
    static String rows(PlanRules x, int n) {
        int rows = x.run(n);
        StringBuilder text = new StringBuilder().append(rows);
        for (int i = 0; i < rows; i++) {
            for (int m = 0; m < 6; m++) {
                text.append(m == 0 ? " / " : " ").append(x.member(i, m));
            }
        }
        return text.toString();
    }

    /** What worked() answers, 0 to 3. */
    static String worked(PlanRules x) {
        return x.worked(0) + " " + x.worked(1) + " " + x.worked(2) + " " + x.worked(3);
    }

    /** What count() answers, 0 to 3. */
    static String counts(PlanRules x) {
        return x.count(0) + " " + x.count(1) + " " + x.count(2) + " " + x.count(3);
    }
}
