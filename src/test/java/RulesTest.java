/** Promises 12 and 13: fits, rewrite. */
public final class RulesTest {
    private static final int BAD = PlanRules.BAD, FULL = PlanRules.FULL, NO = PlanRules.NO;
    private static final int MIN = Integer.MIN_VALUE, MAX = Integer.MAX_VALUE;
    private static final int SOURCE = 0, FILTER = 1, SET = 2, KEEP = 3, JOIN = 4, UNION = 5, FOLD = 6, ONCE = 7, FIRST = 8;

    /** FORMULAS that started() tells: MEMBERS 0 to 5 are 0 to 5. */
    private static final int NUMBER = 6, RISKY = 7, BARE_RISKY = 8, PAIR = 9;

    public static void main(String[] args) {
        filterSet();
        filterKeep();
        filterJoin();
        filterUnion();
        filterFold();
        filterOnce();
        filterFilter();
        setSet();
        keeps();
        foldUnion();
        foldKeep();
        onceOnce();
        onceUnion();
        onceUnionOfOneOnce();
        firsts();
        otherKinds();
        numbering();
        sharedStays();
        noRoom();
        noRoomForFormula();
        wrongOnes();
        Check.end();
    }

    /** NODES 0, 1: SOURCES 0, 1; 2: one above SOURCE 1 that MAY FAIL. */
    private static PlanRules started() {
        PlanRules x = new PlanRules();
        for (int m = 0; m < 6; m++) {
            x.formula(0, m, 0);
        }
        x.formula(1, 1, 0);
        x.formula(5, 0, 1);
        x.formula(6, NUMBER, 0);
        x.formula(2, 0, 1);
        x.node(SOURCE, 0, 0, 0, 0);
        x.node(SOURCE, 1, 0, 0, 0);
        x.node(FILTER, 1, 0, 0, RISKY);
        for (int i = 0; i < 5; i++) {
            x.row(0, i % 3, i + 1, i % 2);
            x.row(1, i % 2, 2 * i + 1, -i);
        }
        return x;
    }

    private static void becomes(PlanRules x, int rule, int n, int more, String want) {
        String was = Plans.plan(x, n);
        String rows = Plans.rows(x, n);
        int bound = x.told(n, 5);
        int mayFail = x.told(n, 6);
        int nodes = x.count(1);
        int times = x.count(2);
        Check.due("fits " + rule + ": " + was, x.fits(n, rule), 1);
        Check.due("rewrite " + rule + ": " + was, x.rewrite(n, rule), nodes + more);
        Check.due("count(1)", x.count(1), nodes + more);
        Check.due("count(2)", x.count(2), times + 1);
        Check.holds(was + " by " + rule + " is " + Plans.plan(x, n) + ", due is " + want, Plans.plan(x, n).equals(want));
        Check.holds(was + " by " + rule + ": the same ROWS", Plans.rows(x, n).equals(rows));
        Check.due("BOUND", x.told(n, 5), bound);
        Check.due("MAY FAIL", x.told(n, 6), mayFail);
    }

    private static void stays(PlanRules x, int rule, int n) {
        String was = Plans.plan(x, n);
        int nodes = x.count(1);
        int times = x.count(2);
        Check.due("fits " + rule + ": " + was, x.fits(n, rule), 0);
        Check.due("rewrite " + rule + ": " + was, x.rewrite(n, rule), NO);
        Check.due("count(1)", x.count(1), nodes);
        Check.due("count(2)", x.count(2), times);
        Check.holds(was + " stays", Plans.plan(x, n).equals(was));
    }

    private static void filterSet() {
        PlanRules x = started();
        int set = x.node(SET, 0, 0, 3, PAIR);
        becomes(x, 0, x.node(FILTER, set, 0, 0, 2), 1, "SET(FILTER(S0; 2); 3; 9)");
        becomes(x, 0, x.node(FILTER, set, 0, 0, RISKY), 1, "SET(FILTER(S0; 7); 3; 9)");
        stays(x, 0, x.node(FILTER, set, 0, 0, 3));
        int risky = x.node(SET, 0, 0, 3, RISKY);
        stays(x, 0, x.node(FILTER, risky, 0, 0, 2));
        int set0 = x.node(SET, 0, 0, 0, 1);
        stays(x, 0, x.node(FILTER, set0, 0, 0, PAIR));
        becomes(x, 0, x.node(FILTER, set0, 0, 0, NUMBER), 1, "SET(FILTER(S0; 6); 0; 1)");
    }

    private static void filterKeep() {
        PlanRules x = started();
        int keep = x.node(KEEP, 0, 0, 0, 3);
        becomes(x, 1, x.node(FILTER, keep, 0, 0, PAIR), 1, "KEEP(FILTER(S0; 9); 3)");
        becomes(x, 1, x.node(FILTER, keep, 0, 0, RISKY), 1, "KEEP(FILTER(S0; 7); 3)");
        stays(x, 1, x.node(FILTER, keep, 0, 0, 2));
        int keep0 = x.node(KEEP, 0, 0, 0, 1);
        stays(x, 1, x.node(FILTER, keep0, 0, 0, PAIR));
        int none = x.node(KEEP, 0, 0, 0, 0);
        becomes(x, 1, x.node(FILTER, none, 0, 0, BARE_RISKY), 1, "KEEP(FILTER(S0; 8); 0)");
    }

    private static void filterJoin() {
        PlanRules x = started();
        int join = x.node(JOIN, 0, 2, 0, 6);
        becomes(x, 2, x.node(FILTER, join, 0, 0, 0), 1, "JOIN(FILTER(S0; 0), FILTER(S1; 7); 0; 6)");
        becomes(x, 3, x.node(FILTER, join, 0, 0, 1), 1, "JOIN(S0, FILTER(FILTER(S1; 7); 1); 0; 6)");
        stays(x, 2, x.node(FILTER, join, 0, 0, 1));
        stays(x, 3, x.node(FILTER, join, 0, 0, 0));
        int mixed = x.node(FILTER, join, 0, 0, PAIR);
        stays(x, 2, mixed);
        stays(x, 3, mixed);
        int risky = x.node(FILTER, x.node(JOIN, 0, 1, 0, 0), 0, 0, RISKY);
        stays(x, 2, risky);
        int riskyRight = x.node(FILTER, x.node(JOIN, 0, 1, 0, 63), 0, 0, RISKY);
        stays(x, 3, riskyRight);
        becomes(x, 2, x.node(FILTER, join, 0, 0, NUMBER), 1, "JOIN(FILTER(S0; 6), FILTER(S1; 7); 0; 6)");
        becomes(x, 3, x.node(FILTER, join, 0, 0, NUMBER), 1, "JOIN(S0, FILTER(FILTER(S1; 7); 6); 0; 6)");
    }

    private static void filterUnion() {
        PlanRules x = started();
        int safe = x.node(UNION, 2, 1, 0, 0);
        int risky = x.node(UNION, 0, 2, 0, 0);
        int deep = x.node(UNION, 0, x.node(ONCE, 2, 0, 0, 0), 0, 0);
        becomes(x, 4, x.node(FILTER, safe, 0, 0, RISKY), 2, "UNION(FILTER(FILTER(S1; 7); 7), FILTER(S1; 7))");
        becomes(x, 4, x.node(FILTER, risky, 0, 0, 0), 2, "UNION(FILTER(S0; 0), FILTER(FILTER(S1; 7); 0))");
        stays(x, 4, x.node(FILTER, risky, 0, 0, RISKY));
        stays(x, 4, x.node(FILTER, deep, 0, 0, BARE_RISKY));
        int same = x.node(UNION, 0, 0, 0, 0);
        becomes(x, 4, x.node(FILTER, same, 0, 0, 0), 2, "UNION(FILTER(S0; 0), FILTER(S0; 0))");
    }

    private static void filterFold() {
        PlanRules x = started();
        int fold = x.node(FOLD, 0, 0, 0, 1);
        becomes(x, 5, x.node(FILTER, fold, 0, 0, 0), 1, "FOLD(FILTER(S0; 0); 0; 1)");
        becomes(x, 5, x.node(FILTER, fold, 0, 0, NUMBER), 1, "FOLD(FILTER(S0; 6); 0; 1)");
        stays(x, 5, x.node(FILTER, fold, 0, 0, 1));
        stays(x, 5, x.node(FILTER, fold, 0, 0, PAIR));
        stays(x, 5, x.node(FILTER, fold, 0, 0, 2));
        stays(x, 5, x.node(FILTER, fold, 0, 0, BARE_RISKY));
    }

    private static void filterOnce() {
        PlanRules x = started();
        int once = x.node(ONCE, 2, 0, 0, 0);
        becomes(x, 6, x.node(FILTER, once, 0, 0, RISKY), 1, "ONCE(FILTER(FILTER(S1; 7); 7))");
        becomes(x, 6, x.node(FILTER, once, 0, 0, 5), 1, "ONCE(FILTER(FILTER(S1; 7); 5))");
    }

    private static void filterFilter() {
        PlanRules x = started();
        int safe = x.node(FILTER, 0, 0, 0, 1);
        int risky = x.node(FILTER, 0, 0, 0, RISKY);
        stays(x, 7, x.node(FILTER, risky, 0, 0, BARE_RISKY));
        becomes(x, 7, x.node(FILTER, safe, 0, 0, 2), 0, "FILTER(S0; 10)");
        becomes(x, 7, x.node(FILTER, safe, 0, 0, RISKY), 0, "FILTER(S0; 11)");
        becomes(x, 7, x.node(FILTER, risky, 0, 0, 0), 0, "FILTER(S0; 12)");
        Check.due("count(0)", x.count(0), 13);
        Check.due("READS of BOTH 1, 2", x.formulaOf(10, 0), 6);
        Check.due("it may not FAIL", x.formulaOf(10, 1), 0);
        Check.due("READS of BOTH 1, RISKY", x.formulaOf(11, 0), 3);
        Check.due("it MAY FAIL", x.formulaOf(11, 1), 1);
        Check.due("run of BOTH RISKY, 0", x.run(x.node(SET, 0, 0, 5, 12)), 5);
        Check.due("f is worked ahead of g", x.worked(1), 5 * 4);
    }

    private static void setSet() {
        PlanRules x = started();
        int set = x.node(SET, 2, 0, 3, PAIR);
        becomes(x, 8, x.node(SET, set, 0, 3, 2), 0, "SET(FILTER(S1; 7); 3; 2)");
        becomes(x, 8, x.node(SET, set, 0, 3, RISKY), 0, "SET(FILTER(S1; 7); 3; 7)");
        stays(x, 8, x.node(SET, set, 0, 4, 2));
        stays(x, 8, x.node(SET, set, 0, 3, 3));
        int risky = x.node(SET, 0, 0, 3, RISKY);
        stays(x, 8, x.node(SET, risky, 0, 3, 2));
    }

    private static void keeps() {
        PlanRules x = started();
        int keep = x.node(KEEP, 0, 0, 0, 6);
        becomes(x, 9, x.node(KEEP, keep, 0, 0, 3), 0, "KEEP(S0; 2)");
        becomes(x, 9, x.node(KEEP, keep, 0, 0, 56), 0, "KEEP(S0; 0)");
        int set = x.node(SET, 2, 0, 3, PAIR);
        becomes(x, 10, x.node(KEEP, set, 0, 0, 55), 0, "KEEP(FILTER(S1; 7); 55)");
        stays(x, 10, x.node(KEEP, set, 0, 0, 8));
        stays(x, 10, x.node(KEEP, x.node(SET, 0, 0, 3, RISKY), 0, 0, 55));
        int union = x.node(UNION, 0, 2, 0, 0);
        becomes(x, 11, x.node(KEEP, union, 0, 0, 5), 2, "UNION(KEEP(S0; 5), KEEP(FILTER(S1; 7); 5))");
    }

    private static void foldUnion() {
        PlanRules x = started();
        int union = x.node(UNION, 0, 1, 0, 0);
        int fold = x.node(FOLD, union, 0, 0, 1);
        becomes(x, 12, fold, 3, "FOLD(UNION(FOLD(S0; 0; 1), FOLD(S1; 0; 1)); 0; 1)");
        stays(x, 12, fold);
        int left = x.node(FOLD, 0, 0, 0, 1);
        int right = x.node(FOLD, 1, 0, 0, 1);
        int otherSum = x.node(FOLD, 1, 0, 0, 2);
        int otherKey = x.node(FOLD, 1, 0, 2, 1);
        stays(x, 12, x.node(FOLD, x.node(UNION, left, right, 0, 0), 0, 0, 1));
        becomes(x, 12, x.node(FOLD, x.node(UNION, left, 1, 0, 0), 0, 0, 1), 3,
            "FOLD(UNION(FOLD(FOLD(S0; 0; 1); 0; 1), FOLD(S1; 0; 1)); 0; 1)");
        becomes(x, 12, x.node(FOLD, x.node(UNION, 0, right, 0, 0), 0, 0, 1), 3,
            "FOLD(UNION(FOLD(S0; 0; 1), FOLD(FOLD(S1; 0; 1); 0; 1)); 0; 1)");
        Check.due("another k", x.fits(x.node(FOLD, x.node(UNION, left, otherSum, 0, 0), 0, 0, 1), 12), 1);
        Check.due("another m", x.fits(x.node(FOLD, x.node(UNION, otherKey, left, 0, 0), 0, 0, 1), 12), 1);
        Check.due("m, k the other way", x.fits(x.node(FOLD, x.node(UNION, left, right, 0, 0), 0, 1, 0), 12), 1);
    }

    private static void foldKeep() {
        PlanRules x = started();
        int keep = x.node(KEEP, 2, 0, 0, 3);
        becomes(x, 13, x.node(FOLD, keep, 0, 0, 1), 0, "FOLD(FILTER(S1; 7); 0; 1)");
        becomes(x, 13, x.node(FOLD, keep, 0, 1, 0), 0, "FOLD(FILTER(S1; 7); 1; 0)");
        stays(x, 13, x.node(FOLD, keep, 0, 0, 2));
        stays(x, 13, x.node(FOLD, keep, 0, 2, 0));
    }

    private static void onceOnce() {
        PlanRules x = started();
        int once = x.node(ONCE, 0, 0, 0, 0);
        becomes(x, 14, x.node(ONCE, once, 0, 0, 0), 0, "ONCE(S0)");
    }

    private static void onceUnion() {
        PlanRules x = started();
        int once = x.node(ONCE, 0, 0, 0, 0);
        int other = x.node(ONCE, 2, 0, 0, 0);
        int n = x.node(ONCE, x.node(UNION, 0, 1, 0, 0), 0, 0, 0);
        becomes(x, 16, n, 3, "ONCE(UNION(ONCE(S0), ONCE(S1)))");
        stays(x, 16, n);
        stays(x, 16, x.node(ONCE, x.node(UNION, once, other, 0, 0), 0, 0, 0));
    }

    private static void onceUnionOfOneOnce() {
        PlanRules x = started();
        int left = x.node(ONCE, 0, 0, 0, 0);
        int right = x.node(ONCE, 2, 0, 0, 0);
        becomes(x, 16, x.node(ONCE, x.node(UNION, left, 1, 0, 0), 0, 0, 0), 3,
            "ONCE(UNION(ONCE(ONCE(S0)), ONCE(S1)))");
        becomes(x, 16, x.node(ONCE, x.node(UNION, 0, right, 0, 0), 0, 0, 0), 3,
            "ONCE(UNION(ONCE(S0), ONCE(ONCE(FILTER(S1; 7)))))");
    }

    private static void firsts() {
        PlanRules x = started();
        int three = x.node(FIRST, 0, 0, 0, 3);
        becomes(x, 15, x.node(FIRST, three, 0, 0, 2), 0, "FIRST(S0; 2)");
        becomes(x, 15, x.node(FIRST, three, 0, 0, 4), 0, "FIRST(S0; 3)");
        becomes(x, 15, x.node(FIRST, three, 0, 0, 0), 0, "FIRST(S0; 0)");
        int set = x.node(SET, 2, 0, 3, PAIR);
        becomes(x, 17, x.node(FIRST, set, 0, 0, 2), 1, "SET(FIRST(FILTER(S1; 7); 2); 3; 9)");
        stays(x, 17, x.node(FIRST, x.node(SET, 0, 0, 3, RISKY), 0, 0, 2));
    }

    /** Each RULE fits at most on the two kinds that it tells. */
    private static void otherKinds() {
        String[] kinds = {"12", "13", "14", "14", "15", "16", "17", "11", "22", "33", "32", "35", "65", "63", "77", "88",
            "75", "82"};
        for (int upper = 1; upper < 9; upper++) {
            for (int lower = 0; lower < 9; lower++) {
                for (int rule = 0; rule < 18; rule++) {
                    if (!kinds[rule].equals("" + upper + lower)) {
                        PlanRules x = started();
                        stays(x, rule, pair(x, upper, lower));
                    }
                }
            }
        }
        PlanRules x = started();
        for (int rule = 0; rule < 18; rule++) {
            stays(x, rule, 0);
            stays(x, rule, 1);
        }
    }

    /** A NODE of the upper kind on one of the lower kind. */
    private static int pair(PlanRules x, int upper, int lower) {
        int few = x.node(FIRST, 1, 0, 0, 2);
        int below = x.node(lower, 0, few, 4, lower == KEEP || lower == JOIN ? 3 : NUMBER - (lower == FOLD ? 1 : 0));
        return x.node(upper, below, few, 4, upper == FOLD ? 1 : NUMBER);
    }

    /** Within ahead of around, then from the left on. */
    private static void numbering() {
        PlanRules x = started();
        int n = x.node(FOLD, x.node(UNION, 0, 1, 0, 0), 0, 0, 1);
        int next = x.count(1);
        x.rewrite(n, 12);
        Check.due("the left FOLD", x.told(next, 1), 0);
        Check.due("the right FOLD", x.told(next + 1, 1), 1);
        Check.due("the UNION", x.told(next + 2, 0), UNION);
        Check.due("its a", x.told(next + 2, 1), next);
        Check.due("its b", x.told(next + 2, 2), next + 1);
        Check.due("the outermost one", x.told(n, 1), next + 2);
        int f = x.node(FILTER, x.node(UNION, 1, 0, 0, 0), 0, 0, 0);
        next = x.count(1);
        x.rewrite(f, 4);
        Check.due("the left FILTER", x.told(next, 1), 1);
        Check.due("the right FILTER", x.told(next + 1, 1), 0);
        Check.due("a of the UNION", x.told(f, 1), next);
        Check.due("b of the UNION", x.told(f, 2), next + 1);
        int[] filterTold = {FILTER, 1, 0, 0, 0};
        for (int what = 0; what < filterTold.length; what++) {
            Check.due("a new FILTER, told " + what, x.told(next, what), filterTold[what]);
        }
        int s = x.node(FILTER, x.node(SET, 0, 0, 3, 1), 0, 0, 2);
        x.rewrite(s, 0);
        Check.due("a SET has no b", x.told(s, 2), 0);
        int k = x.node(KEEP, x.node(UNION, 0, 1, 0, 0), 0, 0, 5);
        x.rewrite(k, 11);
        Check.due("a UNION has no m", x.told(k, 3), 0);
        Check.due("a UNION has no v", x.told(k, 4), 0);
    }

    private static void sharedStays() {
        PlanRules x = started();
        int set = x.node(SET, 0, 0, 3, PAIR);
        int n = x.node(FILTER, set, 0, 0, 2);
        int above = x.node(ONCE, n, 0, 0, 0);
        int beside = x.node(ONCE, set, 0, 0, 0);
        x.rewrite(n, 0);
        Check.holds("what stands above sees it", Plans.plan(x, above).equals("ONCE(SET(FILTER(S0; 2); 3; 9))"));
        Check.holds("what was below stays", Plans.plan(x, beside).equals("ONCE(SET(S0; 3; 9))"));
    }

    private static void noRoom() {
        int[] needs = {1, 1, 1, 1, 2, 1, 1, 0, 0, 0, 0, 2, 3, 0, 0, 0, 3, 1};
        int[][] below = {{SET, 3, 1}, {KEEP, 0, 63}, {JOIN, 0, 2}, {JOIN, 0, 63}, {UNION, 0, 0}, {FOLD, 0, 1},
            {ONCE, 0, 0}, {FILTER, 0, 0}, {SET, 3, 1}, {KEEP, 0, 3}, {SET, 3, 1}, {UNION, 0, 0}, {UNION, 0, 0},
            {KEEP, 0, 63}, {ONCE, 0, 0}, {FIRST, 0, 3}, {UNION, 0, 0}, {SET, 3, 1}};
        int[][] above = {{FILTER, 0, 0}, {FILTER, 0, 0}, {FILTER, 0, 0}, {FILTER, 0, 0}, {FILTER, 0, 0}, {FILTER, 0, 0},
            {FILTER, 0, 0}, {FILTER, 0, 0}, {SET, 3, 2}, {KEEP, 0, 3}, {KEEP, 0, 3}, {KEEP, 0, 3}, {FOLD, 0, 1},
            {FOLD, 0, 1}, {ONCE, 0, 0}, {FIRST, 0, 2}, {ONCE, 0, 0}, {FIRST, 0, 2}};
        for (int rule = 0; rule < 18; rule++) {
            for (int left = 0; left <= 3; left++) {
                PlanRules x = started();
                int n = x.node(above[rule][0], x.node(below[rule][0], 0, 1, below[rule][1], below[rule][2]), 0,
                    above[rule][1], above[rule][2]);
                while (x.count(1) < 60 - left) {
                    x.node(SOURCE, 0, 0, 0, 0);
                }
                String was = Plans.plan(x, n);
                boolean fits = needs[rule] <= left;
                Check.due("room is not looked at by fits " + rule, x.fits(n, rule), 1);
                Check.due("rewrite " + rule + " with room for " + left, x.rewrite(n, rule),
                    fits ? 60 - left + needs[rule] : FULL);
                Check.due("count(1)", x.count(1), fits ? 60 - left + needs[rule] : 60 - left);
                Check.due("count(2)", x.count(2), fits ? 1 : 0);
                Check.holds("what is refused changes nothing", fits || Plans.plan(x, n).equals(was));
            }
        }
    }

    private static void noRoomForFormula() {
        PlanRules x = started();
        int n = x.node(FILTER, x.node(FILTER, 0, 0, 0, 1), 0, 0, 2);
        int m = x.node(FILTER, x.node(FILTER, 0, 0, 0, 1), 0, 0, 2);
        while (x.count(0) < 39) {
            x.formula(1, 0, 0);
        }
        Check.due("room for one", x.rewrite(n, 7), x.count(1));
        Check.due("room for none", x.rewrite(m, 7), FULL);
        Check.due("fits all the same", x.fits(m, 7), 1);
        Check.holds("it stays", Plans.plan(x, m).equals("FILTER(FILTER(S0; 1); 2)"));
        Check.due("count(0)", x.count(0), 40);
        Check.due("count(2)", x.count(2), 1);
        PlanRules y = started();
        int long15 = 0;
        for (int size = 2; size <= 15; size++) {
            long15 = y.formula(11, long15, 0);
        }
        int long14 = long15 - 1;
        int low = y.node(FILTER, 0, 0, 0, long15);
        int tooLong = y.node(FILTER, low, 0, 0, long15);
        int justRight = y.node(FILTER, low, 0, 0, long14);
        int formulas = y.count(0);
        Check.due("SIZE 31", y.rewrite(tooLong, 7), FULL);
        Check.due("no FORMULA is made", y.count(0), formulas);
        Check.due("SIZE 30", y.rewrite(justRight, 7), y.count(1));
        Check.due("one FORMULA is made", y.count(0), formulas + 1);
        Check.due("no NODES are needed", fullOfNodes(), 60);
    }

    private static int fullOfNodes() {
        PlanRules x = started();
        int n = x.node(FILTER, x.node(FILTER, 0, 0, 0, 1), 0, 0, 2);
        while (x.count(1) < 60) {
            x.node(SOURCE, 0, 0, 0, 0);
        }
        return x.rewrite(n, 7);
    }

    private static void wrongOnes() {
        PlanRules x = started();
        int n = x.node(ONCE, x.node(ONCE, 0, 0, 0, 0), 0, 0, 0);
        for (int wrong : new int[] {-1, 18, MIN, MAX}) {
            Check.due("fits(n, " + wrong + ")", x.fits(n, wrong), BAD);
            Check.due("rewrite(n, " + wrong + ")", x.rewrite(n, wrong), BAD);
        }
        for (int wrong : new int[] {-1, n + 1, 60, MIN, MAX}) {
            Check.due("fits(" + wrong + ", 14)", x.fits(wrong, 14), BAD);
            Check.due("rewrite(" + wrong + ", 14)", x.rewrite(wrong, 14), BAD);
        }
        Check.due("count(2)", x.count(2), 0);
    }
}
