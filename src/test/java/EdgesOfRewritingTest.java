/** The edges of promises 12 to 14: fits, rewrite, sweep; one method for each sentence. */
public final class EdgesOfRewritingTest {
    private static final int BAD = Plans.BAD, FULL = Plans.FULL, NO = Plans.NO, MIN = Plans.MIN, MAX = Plans.MAX;

    /** For each RULE: how many new NODES it writes; the kind, m, v of the NODE below, and of the one above. */
    private static final int[] NEW_NODES = {1, 1, 1, 1, 2, 1, 1, 0, 0, 0, 0, 2, 3, 0, 0, 0, 3, 1};
    private static final int[][] BELOW = {{2, 3, 1}, {3, 0, 63}, {4, 0, 2}, {4, 0, 63}, {5, 0, 0}, {6, 0, 1}, {7, 0, 0},
        {1, 0, 0}, {2, 3, 1}, {3, 0, 3}, {2, 3, 1}, {5, 0, 0}, {5, 0, 0}, {3, 0, 63}, {7, 0, 0}, {8, 0, 3}, {5, 0, 0},
        {2, 3, 1}};
    private static final int[][] ABOVE = {{1, 0, 0}, {1, 0, 0}, {1, 0, 0}, {1, 0, 0}, {1, 0, 0}, {1, 0, 0}, {1, 0, 0},
        {1, 0, 0}, {2, 3, 2}, {3, 0, 3}, {3, 0, 3}, {3, 0, 3}, {6, 0, 1}, {6, 0, 1}, {7, 0, 0}, {8, 0, 2}, {7, 0, 0},
        {8, 0, 2}};

    public static void main(String[] args) {
        rulesAreNoughtTo17();
        roomIsNotLookedAt();
        fitsIsBad();
        fitsChangesNothing();
        rewriteTellsHowMany();
        rewriteIsBad();
        rewriteIsNo();
        fullByNodes();
        fullByFormulas();
        fullBySize();
        sweepOfNoTimes();
        sweepAtMost();
        sweepOfTheNodeAndThoseBelow();
        sweepTakesTheLeastNumber();
        sweepTakesTheLeastRule();
        sweepTillNoneIs();
        sweepTillThereIsNoRoom();
        sweepIsBad();
        Check.end();
    }

    /** After ordinary(): a NODE that the RULE fits, on SOURCES 1 and 2. */
    private static int standing(PlanRules x, int rule) {
        int below = x.node(BELOW[rule][0], 1, 2, BELOW[rule][1], BELOW[rule][2]);
        return x.node(ABOVE[rule][0], below, 0, ABOVE[rule][1], ABOVE[rule][2]);
    }

    private static int onceUnion(PlanRules x) {
        return Plans.once(x, Plans.union(x, 1, 2));
    }

    private static void rulesAreNoughtTo17() {
        Check.about("RULES 0 to 17");
        for (int rule = 0; rule < 18; rule++) {
            PlanRules x = new PlanRules();
            Twins.ordinary(x);
            int n = standing(x, rule);
            Check.due("fits(n, -1)", x.fits(n, -1), BAD);
            Check.due("fits(n, " + rule + ")", x.fits(n, rule), 1);
            Check.due("fits(n, 18)", x.fits(n, 18), BAD);
            Check.due("rewrite(n, -1)", x.rewrite(n, -1), BAD);
            Check.due("rewrite(n, 18)", x.rewrite(n, 18), BAD);
            Check.due("rewrite(n, " + rule + ")", x.rewrite(n, rule), n + 1 + NEW_NODES[rule]);
        }
    }

    private static void roomIsNotLookedAt() {
        Check.about("Promise 12: Whether a NODE stands as a RULE wants it (1, 0; room is not looked at)");
        for (int rule = 0; rule < 18; rule++) {
            PlanRules x = new PlanRules();
            Twins.fullOfFormulas(x);
            int n = standing(x, rule);
            Twins.fillNodes(x, 0);
            Check.due("fits(n, " + rule + ") where all is full", x.fits(n, rule), 1);
            for (int source = 0; source < 4; source++) {
                Check.due("a SOURCE", x.fits(source, rule), 0);
            }
        }
        PlanRules y = new PlanRules();
        int great = great(y);
        Check.due("a BOTH of SIZE 31", y.fits(great, 7), 1);
    }

    private static void fitsIsBad() {
        Check.about("Promise 12: BAD");
        for (int node : new int[] {-1, 15, 60, MIN, MAX}) {
            Twins.refuse("fits(" + node + ", 14)", Twins::ordinary, BAD, (x, n) -> x.fits(node, 14));
        }
        for (int rule : new int[] {-1, 18, MIN, MAX}) {
            Twins.refuse("fits(UPPER, " + rule + ")", Twins::ordinary, BAD, (x, n) -> x.fits(Twins.UPPER, rule));
            Twins.refuse("fits(0, " + rule + ")", Twins::ordinary, BAD, (x, n) -> x.fits(0, rule));
        }
    }

    private static void fitsChangesNothing() {
        Check.about("Promise 12: it tells, and rewrites nothing");
        for (int rule = 0; rule < 18; rule++) {
            int by = rule;
            Twins.refuse("fits(n, " + rule + ")", x -> {
                Twins.ordinary(x);
                return standing(x, by);
            }, 1, (x, n) -> x.fits(n, by));
        }
    }

    private static void rewriteTellsHowMany() {
        Check.about("Promise 13: A NODE is rewritten by a RULE: how many NODES there are");
        for (int rule = 0; rule < 18; rule++) {
            PlanRules x = new PlanRules();
            Twins.ordinary(x);
            int n = standing(x, rule);
            String rows = Plans.rows(x, n);
            int formulas = x.count(0);
            Check.due("rewrite(n, " + rule + ")", x.rewrite(n, rule), n + 1 + NEW_NODES[rule]);
            Check.due("count(1)", x.count(1), n + 1 + NEW_NODES[rule]);
            Check.due("count(0)", x.count(0), rule == 7 ? formulas + 1 : formulas);
            Check.due("count(2)", x.count(2), 1);
            Check.due("the same ROWS", Plans.rows(x, n), rows);
        }
    }

    private static void rewriteIsBad() {
        Check.about("Promise 13: BAD");
        for (int node : new int[] {-1, 15, 60, MIN, MAX}) {
            Twins.refuse("rewrite(" + node + ", 14)", Twins::ordinary, BAD, (x, n) -> x.rewrite(node, 14));
        }
        for (int rule : new int[] {-1, 18, MIN, MAX}) {
            Twins.refuse("rewrite(UPPER, " + rule + ")", Twins::ordinary, BAD, (x, n) -> x.rewrite(Twins.UPPER, rule));
            Twins.refuse("rewrite(0, " + rule + ")", Twins::ordinary, BAD, (x, n) -> x.rewrite(0, rule));
        }
    }

    private static void rewriteIsNo() {
        Check.about("Promise 13: NO: it does not stand so");
        for (int rule = 0; rule < 18; rule++) {
            int by = rule;
            Twins.refuse("a SOURCE by " + rule, Twins::ordinary, NO, (x, n) -> x.rewrite(0, by));
            Twins.refuse("a ONCE (ONCE x) by " + rule, Twins::ordinary, rule == 14 ? 15 : NO,
                (x, n) -> by == 14 ? x.count(1) : x.rewrite(Twins.UPPER, by));
            Twins.refuse("one that RULE " + rule + " fits, by the next", x -> {
                Twins.ordinary(x);
                return standing(x, by);
            }, NO, (x, n) -> x.rewrite(n, (by + (by == 1 ? 3 : 1)) % 18));
            Twins.refuse("where all is full, by " + rule, x -> {
                Twins.fullOfFormulas(x);
                Twins.fillNodes(x, 0);
                return 0;
            }, NO, (x, n) -> x.rewrite(0, by));
        }
    }

    private static void fullByNodes() {
        Check.about("Promise 13: FULL: no room for its new NODES");
        for (int rule = 0; rule < 18; rule++) {
            int by = rule;
            for (int room = 0; room < NEW_NODES[rule]; room++) {
                int left = room;
                Twins.refuse("RULE " + rule + " with room for " + room, x -> {
                    Twins.ordinary(x);
                    int n = standing(x, by);
                    Twins.fillNodes(x, left);
                    return n;
                }, FULL, (x, n) -> x.rewrite(n, by));
            }
            PlanRules x = new PlanRules();
            Twins.ordinary(x);
            int n = standing(x, rule);
            Twins.fillNodes(x, NEW_NODES[rule]);
            String rows = Plans.rows(x, n);
            Check.due("RULE " + rule + " with room for all", x.rewrite(n, rule), 60);
            Check.due("count(1)", x.count(1), 60);
            Check.due("the same ROWS", Plans.rows(x, n), rows);
        }
    }

    private static void fullByFormulas() {
        Check.about("Promise 13: FULL: no room for its new FORMULA");
        Twins.refuse("RULE 7 with 40 FORMULAS", x -> {
            Twins.fullOfFormulas(x);
            return standing(x, 7);
        }, FULL, (x, n) -> x.rewrite(n, 7));
        for (int rule = 0; rule < 18; rule++) {
            PlanRules x = new PlanRules();
            Twins.fullOfFormulas(x);
            int n = standing(x, rule);
            Check.due("RULE " + rule + " with 40 FORMULAS", x.rewrite(n, rule), rule == 7 ? FULL : n + 1 + NEW_NODES[rule]);
        }
        PlanRules x = new PlanRules();
        Twins.ordinary(x);
        int n = standing(x, 7);
        while (x.count(0) < 39) {
            Plans.number(x, 0);
        }
        Check.due("RULE 7 with 39 FORMULAS", x.rewrite(n, 7), n + 1);
        Check.due("count(0)", x.count(0), 40);
        Check.due("the last FORMULA", x.told(n, 4), 39);
        Check.due("its ROWS", Plans.rows(x, n), "2 / 1 20 30 0 0 0 / 2 21 31 0 0 0");
    }

    /** A FILTER by a FORMULA of SIZE 15 on a FILTER by another one: their BOTH would be of SIZE 31. */
    private static int great(PlanRules x) {
        x.row(0, 0, 1, 2);
        x.row(0, 1, 1, 2);
        int f = Plans.member(x, 0);
        for (int size = 2; size <= 15; size++) {
            f = x.formula(Plans.NOT, f, 0);
        }
        return Plans.filter(x, Plans.filter(x, Plans.source(x, 0), f), f);
    }

    private static void fullBySize() {
        Check.about("Promise 13: FULL: (its SIZE, too)");
        Twins.refuse("BOTH of 15 and 15", EdgesOfRewritingTest::great, FULL, (x, n) -> x.rewrite(n, 7));
        PlanRules x = new PlanRules();
        int n = great(x);
        int less = Plans.filter(x, n - 1, 13);
        Check.due("BOTH of 15 and 14", x.rewrite(less, 7), n + 2);
        Check.due("it is the last FORMULA", x.told(less, 4), 15);
        Check.due("it can be no part of another one", x.formula(Plans.NOT, 15, 0), FULL);
        Check.due("its ROWS: 14 times not, and 13 times not, of one number", x.run(less), 0);
        int again = Plans.filter(x, less, 0);
        Check.due("BOTH of 30 and 1", x.rewrite(again, 7), FULL);
        Check.due("and the other way", x.rewrite(Plans.filter(x, Plans.filter(x, 0, 0), 15), 7), FULL);
    }

    private static void sweepOfNoTimes() {
        Check.about("Promise 14: At most so many times (0 ..)");
        Twins.refuse("sweep(UPPER, 0)", Twins::ordinary, 0, (x, n) -> x.sweep(Twins.UPPER, 0));
        Twins.refuse("sweep(0, 0) of a SOURCE", Twins::ordinary, 0, (x, n) -> x.sweep(0, 0));
        Twins.refuse("sweep(0, 100) of a SOURCE", Twins::ordinary, 0, (x, n) -> x.sweep(0, 100));
    }

    /** A chain of ONCES on SOURCE 0: all but the lowest one stand as RULE 14 wants it. */
    private static int onces(PlanRules x, int length) {
        int n = Plans.source(x, 0);
        for (int i = 0; i < length; i++) {
            n = Plans.once(x, n);
        }
        return n;
    }

    private static void sweepAtMost() {
        Check.about("Promise 14: At most so many times (.. to 100): how many times");
        for (int most : new int[] {1, 2, 57, 58, 59, 100}) {
            PlanRules x = new PlanRules();
            int n = onces(x, 59);
            Check.due("sweep(n, " + most + ")", x.sweep(n, most), Math.min(most, 58));
            Check.due("count(2)", x.count(2), Math.min(most, 58));
            Check.due("the rest", x.sweep(n, 100), 58 - Math.min(most, 58));
            Check.due("ONCE", Plans.plan(x, n), "ONCE(S0)");
        }
        PlanRules x = new PlanRules();
        int n = onces(x, 10);
        for (int i = 0; i < 9; i++) {
            Check.due("one at a time", x.sweep(n, 1), 1);
            Check.due("count(2)", x.count(2), i + 1);
        }
        Check.due("then none", x.sweep(n, 1), 0);
    }

    private static void sweepOfTheNodeAndThoseBelow() {
        Check.about("Promise 14: of the NODE, and those below it");
        PlanRules x = new PlanRules();
        int low = onces(x, 2);
        int beside = Plans.once(x, Plans.once(x, 0));
        int right = Plans.once(x, Plans.once(x, 0));
        int join = Plans.join(x, beside, right, 0, 0);
        int above = Plans.once(x, Plans.once(x, join));
        Check.due("those beside and above are not touched", x.sweep(low, 100), 1);
        Check.due("beside it", Plans.plan(x, beside), "ONCE(ONCE(S0))");
        Check.due("above it", Plans.plan(x, above), "ONCE(ONCE(JOIN(ONCE(ONCE(S0)), ONCE(ONCE(S0)); 0; 0)))");
        Check.due("a, b and theirs are", x.sweep(join, 100), 2);
        Check.due("below in a and b", Plans.plan(x, join), "JOIN(ONCE(S0), ONCE(S0); 0; 0)");
        Check.due("the NODE itself", x.sweep(above, 100), 1);
        Check.due("above", Plans.plan(x, above), "ONCE(JOIN(ONCE(S0), ONCE(S0); 0; 0))");
        PlanRules y = new PlanRules();
        int first = onces(y, 2);
        int shared = Plans.union(y, first, first);
        Check.due("a shared one once", y.sweep(shared, 100), 1);
        Check.due("a SOURCE is not the NODE of its number", y.sweep(y.node(0, first, 0, 0, 0), 100), 0);
    }

    private static void sweepTakesTheLeastNumber() {
        Check.about("Promise 14: the one of the least number that some RULE fits");
        PlanRules x = new PlanRules();
        int n = onces(x, 4);
        int top = Plans.first(x, Plans.first(x, n, 3), 2);
        String[] want = {"FIRST(FIRST(ONCE(ONCE(ONCE(S0))); 3); 2)", "FIRST(FIRST(ONCE(ONCE(S0)); 3); 2)",
            "FIRST(FIRST(ONCE(S0); 3); 2)", "FIRST(ONCE(S0); 2)"};
        int[] numbers = {2, 3, 4, top};
        for (int i = 0; i < want.length; i++) {
            Check.due("a step", x.sweep(top, 1), 1);
            Check.due("what stands then", Plans.plan(x, top), want[i]);
            Check.due("NODE " + numbers[i], x.told(numbers[i], 1), i < 3 ? 0 : n);
        }
        leastNumberAbove();
    }

    /** After RULE 0 the upper NODE has the lesser number; it comes ahead of those below it. */
    private static void leastNumberAbove() {
        PlanRules x = new PlanRules();
        Plans.member(x, 0);
        Plans.source(x, 0);
        int union = Plans.union(x, 0, 0);
        int filter = Plans.filter(x, Plans.set(x, union, 3, 0), 0);
        int top = Plans.once(x, Plans.once(x, filter));
        Check.due("a step", x.sweep(top, 1), 1);
        Check.due("RULE 0", Plans.plan(x, filter), "SET(FILTER(UNION(S0, S0); 0); 3; 0)");
        Check.due("the new FILTER has the greatest number", x.told(filter, 1), top + 1);
        Check.due("a step", x.sweep(top, 1), 1);
        Check.due("the ONCE, a lesser number, though above", Plans.plan(x, top),
            "ONCE(SET(FILTER(UNION(S0, S0); 0); 3; 0))");
        Check.due("a step", x.sweep(top, 1), 1);
        Check.due("then the new FILTER", Plans.plan(x, top), "ONCE(SET(UNION(FILTER(S0; 0), FILTER(S0; 0)); 3; 0))");
        Check.due("then none", x.sweep(top, 1), 0);
    }

    private static void sweepTakesTheLeastRule() {
        Check.about("Promise 14: is rewritten by the least such RULE");
        PlanRules x = new PlanRules();
        int one = Plans.number(x, 1);
        int source = Plans.source(x, 0);
        int n = Plans.filter(x, Plans.join(x, source, source, 0, 0), one);
        Check.due("2 fits", x.fits(n, 2), 1);
        Check.due("3 fits", x.fits(n, 3), 1);
        Check.due("a step", x.sweep(n, 1), 1);
        Check.due("by 2", Plans.plan(x, n), "JOIN(FILTER(S0; 0), S0; 0; 0)");
    }

    private static void sweepTillNoneIs() {
        Check.about("Promise 14: till none is");
        for (int rule = 0; rule < 18; rule++) {
            PlanRules x = new PlanRules();
            Twins.ordinary(x);
            int n = standing(x, rule);
            String rows = Plans.rows(x, n);
            int times = x.sweep(n, 100);
            Check.holds("RULE " + rule + ": some times", times > 0 && times < 100);
            Check.due("count(2)", x.count(2), times);
            Check.due("the same ROWS", Plans.rows(x, n), rows);
            Check.due("none is left", x.sweep(n, 100), 0);
            Check.due("RULE " + rule + " does not fit any more", x.fits(n, rule), 0);
        }
        Twins.refuse("a sweep that finds none", x -> {
            Twins.ordinary(x);
            x.sweep(Twins.UPPER, 100);
            x.run(Twins.UPPER);
            return Twins.UPPER;
        }, 0, (x, n) -> x.sweep(n, 100));
    }

    private static void sweepTillThereIsNoRoom() {
        Check.about("Promise 14: or there is no room: how many times");
        for (int rule = 0; rule < 18; rule++) {
            int by = rule;
            for (int room = 0; room < NEW_NODES[rule]; room++) {
                int left = room;
                if (rule != 3) {
                    Twins.refuse("RULE " + rule + ", room for " + room, x -> {
                        Twins.ordinary(x);
                        int n = standing(x, by);
                        Twins.fillNodes(x, left);
                        return n;
                    }, 0, (x, n) -> x.sweep(n, 100));
                }
            }
        }
        Twins.refuse("no room for a FORMULA", x -> {
            Twins.fullOfFormulas(x);
            return Plans.once(x, Plans.once(x, standing(x, 7)));
        }, 0, (x, n) -> x.sweep(n, 100));
        Twins.refuse("no room for its SIZE", x -> Plans.once(x, Plans.once(x, great(x))), 0, (x, n) -> x.sweep(n, 100));
        Twins.refuse("no room, though a later one needs none", x -> {
            Twins.ordinary(x);
            int n = Plans.once(x, Plans.once(x, onceUnion(x)));
            Twins.fillNodes(x, 2);
            return n;
        }, 0, (x, n) -> x.sweep(n, 100));
        roomForSome();
    }

    private static void roomForSome() {
        for (int room = 0; room < 7; room++) {
            PlanRules x = new PlanRules();
            Twins.ordinary(x);
            int left = onceUnion(x);
            int right = onceUnion(x);
            int n = Plans.union(x, left, right);
            Twins.fillNodes(x, room);
            int want = room / 3;
            Check.due("room for " + room, x.sweep(n, 100), want);
            Check.due("count(1)", x.count(1), 60 - room + 3 * want);
            Check.due("the left one", Plans.plan(x, left),
                want > 0 ? "ONCE(UNION(ONCE(S1), ONCE(S2)))" : "ONCE(UNION(S1, S2))");
            Check.due("the right one", Plans.plan(x, right),
                want > 1 ? "ONCE(UNION(ONCE(S1), ONCE(S2)))" : "ONCE(UNION(S1, S2))");
        }
    }

    private static void sweepIsBad() {
        Check.about("Promise 14: BAD");
        for (int node : new int[] {-1, 15, 60, MIN, MAX}) {
            for (int most : new int[] {0, 1, 100}) {
                Twins.refuse("sweep(" + node + ", " + most + ")", Twins::ordinary, BAD, (x, n) -> x.sweep(node, most));
            }
        }
        for (int most : new int[] {-1, 101, MIN, MAX}) {
            Twins.refuse("sweep(UPPER, " + most + ")", Twins::ordinary, BAD, (x, n) -> x.sweep(Twins.UPPER, most));
            Twins.refuse("sweep(0, " + most + ")", Twins::ordinary, BAD, (x, n) -> x.sweep(0, most));
        }
    }
}
