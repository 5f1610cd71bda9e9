/** The edges of RULES 0 to 17: one method for each sentence; the sets that it names are tried all. */
public final class EdgesOfRulesTest {
    private static final int BAD = Plans.BAD, NO = Plans.NO, MAX = Plans.MAX;
    private static final boolean[] BOOLEANS = {false, true};

    public static void main(String[] args) {
        rule0();
        rule1();
        rules2And3();
        rule4();
        rule5();
        rule6();
        rule7();
        rule8();
        rule9();
        rule10();
        rule11();
        rule12();
        rule13();
        rule14();
        rule15();
        rule16();
        rule17();
        numberedBehindAll();
        withItsNumber();
        Check.end();
    }

    /** SOURCES 0, 1, 2 as NODES 0, 1, 2; the last one is without ROWS. */
    private static PlanRules started() {
        PlanRules x = new PlanRules();
        for (int i = 0; i < 6; i++) {
            x.row(0, i % 3 - 1, i % 2, i == 4 ? MAX : i - 2);
        }
        x.row(1, 0, 1, 2);
        x.row(1, -1, 1, MAX);
        x.row(1, 0, 1, 2);
        for (int source = 0; source < 3; source++) {
            Plans.source(x, source);
        }
        return x;
    }

    private static int reading(PlanRules x, int set, boolean risky) {
        return risky ? Plans.risky(x, set) : Plans.reading(x, set);
    }

    private static boolean has(int set, int m) {
        return (set >> m & 1) == 1;
    }

    /** Whether a RULE fits is as due; where it fits, what is written is, and gives the same ROWS. */
    private static void due(PlanRules x, int n, int rule, boolean fits, String want) {
        String was = Plans.plan(x, n);
        String rows = Plans.rows(x, n);
        String counts = Plans.counts(x);
        int nodes = x.count(1);
        Check.due("fits " + rule + " " + was, x.fits(n, rule), fits ? 1 : 0);
        int answer = x.rewrite(n, rule);
        if (!fits) {
            Check.due("rewrite " + rule + " " + was, answer, NO);
            Check.due("it stays", Plans.plan(x, n), was);
            Check.due("counts", Plans.counts(x), counts);
            return;
        }
        Check.holds("rewrite " + rule + " " + was, answer >= nodes && answer == x.count(1));
        Check.due(was + " by " + rule, Plans.plan(x, n), want);
        Check.due("ROWS of " + was + " by " + rule, Plans.rows(x, n), rows);
        Check.due("count(2)", x.count(2), 1);
    }

    private static void rule0() {
        Check.about("0 FILTER (SET x m f) g: SET (FILTER x g) m f, if g READS not m and f may not FAIL");
        for (int m = 0; m < 6; m++) {
            for (int reads = 0; reads < 64; reads++) {
                for (boolean gRisky : BOOLEANS) {
                    for (boolean fRisky : BOOLEANS) {
                        PlanRules x = started();
                        int f = reading(x, 7, fRisky);
                        int g = reading(x, reads, gRisky);
                        int n = Plans.filter(x, Plans.set(x, 0, m, f), g);
                        due(x, n, 0, !has(reads, m) && !fRisky, "SET(FILTER(S0; " + g + "); " + m + "; " + f + ")");
                    }
                }
            }
        }
    }

    private static void rule1() {
        Check.about("1 FILTER (KEEP x s) g: KEEP (FILTER x g) s, if g READS of s alone");
        for (int s = 0; s < 64; s++) {
            for (int reads = 0; reads < 64; reads++) {
                PlanRules x = started();
                int g = reading(x, reads, (s + reads) % 2 == 0);
                int n = Plans.filter(x, Plans.keep(x, 0, s), g);
                due(x, n, 1, (reads | s) == s, "KEEP(FILTER(S0; " + g + "); " + s + ")");
            }
        }
    }

    private static void rules2And3() {
        Check.about("2 FILTER (JOIN x y m s) g: .., if g READS nothing of s and may not FAIL. 3 likewise: .., if g READS of s "
            + "alone and may not FAIL");
        for (int s = 0; s < 64; s++) {
            for (int reads = 0; reads < 64; reads++) {
                for (int rule = 2; rule < 4; rule++) {
                    boolean risky = (s * 5 + reads) % 7 == 0;
                    PlanRules x = started();
                    int g = reading(x, reads, risky);
                    int n = Plans.filter(x, Plans.join(x, 0, 1, 0, s), g);
                    boolean sets = rule == 2 ? (reads & s) == 0 : (reads | s) == s;
                    due(x, n, rule, sets && !risky, rule == 2 ? "JOIN(FILTER(S0; " + g + "), S1; 0; " + s + ")"
                        : "JOIN(S0, FILTER(S1; " + g + "); 0; " + s + ")");
                }
            }
        }
        for (int rule = 2; rule < 4; rule++) {
            for (int s : new int[] {0, 63}) {
                PlanRules x = started();
                int g = Plans.risky(x, 0);
                due(x, Plans.filter(x, Plans.join(x, 0, 1, 0, s), g), rule, false, "");
            }
        }
        PlanRules x = started();
        int risky = Plans.filter(x, 0, Plans.risky(x, 1));
        int safe = Plans.number(x, 1);
        due(x, Plans.filter(x, Plans.join(x, risky, 1, 0, 0), safe), 2, true,
            "JOIN(FILTER(FILTER(S0; 2); 3), S1; 0; 0)");
    }

    private static void rule4() {
        Check.about("4 FILTER (UNION x y) g: UNION (FILTER x g) (FILTER y g), if g or y may not FAIL");
        for (boolean gRisky : BOOLEANS) {
            for (boolean aRisky : BOOLEANS) {
                for (boolean bRisky : BOOLEANS) {
                    PlanRules x = started();
                    int g = reading(x, 1, gRisky);
                    int risky = Plans.risky(x, 2);
                    int a = aRisky ? Plans.filter(x, 0, risky) : 0;
                    int b = bRisky ? Plans.once(x, Plans.filter(x, 1, risky)) : 1;
                    String aText = Plans.plan(x, a);
                    String bText = Plans.plan(x, b);
                    due(x, Plans.filter(x, Plans.union(x, a, b), g), 4, !gRisky || !bRisky,
                        "UNION(FILTER(" + aText + "; " + g + "), FILTER(" + bText + "; " + g + "))");
                }
            }
        }
        PlanRules x = started();
        int g = Plans.member(x, 0);
        due(x, Plans.filter(x, Plans.union(x, 2, 2), g), 4, true, "UNION(FILTER(S2; 0), FILTER(S2; 0))");
    }

    private static void rule5() {
        Check.about("5 FILTER (FOLD x m k) g: FOLD (FILTER x g) m k, if g READS m at most and may not FAIL");
        for (int m = 0; m < 6; m++) {
            for (int reads = 0; reads < 64; reads++) {
                for (boolean risky : BOOLEANS) {
                    PlanRules x = started();
                    int k = (m + 1 + reads % 5) % 6;
                    int g = reading(x, reads, risky);
                    int n = Plans.filter(x, Plans.fold(x, 0, m, k), g);
                    boolean atMost = reads == 0 || reads == 1 << m;
                    due(x, n, 5, atMost && !risky, "FOLD(FILTER(S0; " + g + "); " + m + "; " + k + ")");
                }
            }
        }
    }

    private static void rule6() {
        Check.about("6 FILTER (ONCE x) g: ONCE (FILTER x g)");
        for (int reads = 0; reads < 64; reads++) {
            for (int below = 1; below < 3; below++) {
                PlanRules x = started();
                int g = reading(x, reads, reads % 2 == 0);
                due(x, Plans.filter(x, Plans.once(x, below), g), 6, true, "ONCE(FILTER(S" + below + "; " + g + "))");
            }
        }
    }

    private static void rule7() {
        Check.about("7 FILTER (FILTER x f) g: FILTER x h, if not both may FAIL; h is a new FORMULA, BOTH f g");
        for (boolean fRisky : BOOLEANS) {
            for (boolean gRisky : BOOLEANS) {
                PlanRules x = started();
                int f = reading(x, 1, fRisky);
                int g = reading(x, 2, gRisky);
                int h = x.count(0);
                int nodes = Plans.filter(x, Plans.filter(x, 0, f), g) + 1;
                due(x, nodes - 1, 7, !fRisky || !gRisky, "FILTER(S0; " + h + ")");
                boolean written = !fRisky || !gRisky;
                Check.due("count(0)", x.count(0), written ? h + 1 : h);
                Check.due("no new NODES", x.count(1), nodes);
                Check.due("what h READS", x.formulaOf(h, 0), written ? 3 : BAD);
                Check.due("whether h MAY FAIL", x.formulaOf(h, 1), written ? (fRisky || gRisky ? 1 : 0) : BAD);
            }
        }
        PlanRules x = new PlanRules();
        x.row(0, 0, 0, 0);
        int quotient = x.formula(Plans.QUOTIENT, Plans.member(x, 0), Plans.member(x, 1));
        int n = Plans.filter(x, Plans.filter(x, Plans.source(x, 0), 0), quotient);
        Check.due("f hides a ROW from g", x.run(n), 0);
        x.rewrite(n, 7);
        Check.due("f is a, g is b: it still does", x.run(n), 0);
        Check.due("and g is not worked", x.worked(1), 2);
        Check.due("f and g the same", Plans.filter(x, Plans.filter(x, 0, 0), 0), n + 2);
        Check.due("are merged, too", x.rewrite(n + 2, 7), n + 3);
    }

    private static void rule8() {
        Check.about("8 SET (SET x m f) m g: SET x m g, if g READS not m and f may not FAIL");
        for (int m = 0; m < 6; m++) {
            for (int reads = 0; reads < 64; reads++) {
                for (boolean fRisky : BOOLEANS) {
                    PlanRules x = started();
                    int f = reading(x, 7, fRisky);
                    int g = reading(x, reads, reads % 3 == 0);
                    due(x, Plans.set(x, Plans.set(x, 0, m, f), m, g), 8, !has(reads, m) && !fRisky,
                        "SET(S0; " + m + "; " + g + ")");
                }
            }
            for (int other = 0; other < 6; other++) {
                PlanRules x = started();
                int f = Plans.number(x, 3);
                due(x, Plans.set(x, Plans.set(x, 0, other, f), m, f), 8, other == m, "SET(S0; " + m + "; 0)");
            }
        }
    }

    private static void rule9() {
        Check.about("9 KEEP (KEEP x s) t: KEEP x of what is in s and t");
        for (int s = 0; s < 64; s++) {
            for (int t = 0; t < 64; t++) {
                PlanRules x = started();
                due(x, Plans.keep(x, Plans.keep(x, 0, s), t), 9, true, "KEEP(S0; " + (s & t) + ")");
            }
        }
    }

    private static void rule10() {
        Check.about("10 KEEP (SET x m f) s: KEEP x s, if m is not in s and f may not FAIL");
        for (int m = 0; m < 6; m++) {
            for (int s = 0; s < 64; s++) {
                for (boolean risky : BOOLEANS) {
                    PlanRules x = started();
                    int f = reading(x, 5, risky);
                    due(x, Plans.keep(x, Plans.set(x, 0, m, f), s), 10, !has(s, m) && !risky, "KEEP(S0; " + s + ")");
                }
            }
        }
    }

    private static void rule11() {
        Check.about("11 KEEP (UNION x y) s: UNION (KEEP x s) (KEEP y s)");
        for (int s = 0; s < 64; s++) {
            PlanRules x = started();
            due(x, Plans.keep(x, Plans.union(x, 0, 2), s), 11, true, "UNION(KEEP(S0; " + s + "), KEEP(S2; " + s + "))");
        }
        PlanRules x = started();
        int risky = Plans.filter(x, 1, Plans.risky(x, 1));
        due(x, Plans.keep(x, Plans.union(x, risky, risky), 63), 11, true,
            "UNION(KEEP(FILTER(S1; 2); 63), KEEP(FILTER(S1; 2); 63))");
    }

    private static void rule12() {
        Check.about("12 FOLD (UNION x y) m k: .., unless x and y are FOLDS by m, k");
        for (int m = 0; m < 6; m++) {
            for (int k = 0; k < 6; k++) {
                for (int way = 0; way < 16 && m != k; way++) {
                    PlanRules x = started();
                    int a = foldOrNot(x, 0, way % 4, m, k);
                    int b = foldOrNot(x, 1, way / 4, m, k);
                    String aText = Plans.plan(x, a);
                    String bText = Plans.plan(x, b);
                    String by = "; " + m + "; " + k + ")";
                    due(x, Plans.fold(x, Plans.union(x, a, b), m, k), 12, way != 0,
                        "FOLD(UNION(FOLD(" + aText + by + ", FOLD(" + bText + by + ")" + by);
                }
            }
        }
    }

    /** 0: a FOLD by m, k; 1: by another m; 2: of another k; 3: no FOLD. */
    private static int foldOrNot(PlanRules x, int a, int way, int m, int k) {
        int other = m != 0 && k != 0 ? 0 : m != 1 && k != 1 ? 1 : 2;
        switch (way) {
            case 0:
                return Plans.fold(x, a, m, k);
            case 1:
                return Plans.fold(x, a, other, k);
            case 2:
                return Plans.fold(x, a, m, other);
            default:
                return Plans.once(x, a);
        }
    }

    private static void rule13() {
        Check.about("13 FOLD (KEEP x s) m k: FOLD x m k, if m and k are in s");
        for (int s = 0; s < 64; s++) {
            for (int m = 0; m < 6; m++) {
                for (int k = 0; k < 6; k++) {
                    if (m != k) {
                        PlanRules x = started();
                        due(x, Plans.fold(x, Plans.keep(x, 0, s), m, k), 13, has(s, m) && has(s, k),
                            "FOLD(S0; " + m + "; " + k + ")");
                    }
                }
            }
        }
    }

    private static void rule14() {
        Check.about("14 ONCE (ONCE x): ONCE x");
        PlanRules x = started();
        due(x, Plans.once(x, Plans.once(x, 1)), 14, true, "ONCE(S1)");
        PlanRules y = started();
        due(y, Plans.once(y, Plans.once(y, 2)), 14, true, "ONCE(S2)");
        PlanRules z = started();
        due(z, Plans.once(z, 1), 14, false, "");
    }

    private static void rule15() {
        Check.about("15 FIRST (FIRST x n) l: FIRST x of the lesser one");
        int[] numbers = {0, 1, 2, 5, 6, 7, 99, 100};
        for (int n : numbers) {
            for (int l : numbers) {
                PlanRules x = started();
                due(x, Plans.first(x, Plans.first(x, 0, n), l), 15, true, "FIRST(S0; " + Math.min(n, l) + ")");
            }
        }
    }

    private static void rule16() {
        Check.about("16 ONCE (UNION x y): ONCE (UNION (ONCE x) (ONCE y)), unless x and y are ONCES");
        for (boolean aOnce : BOOLEANS) {
            for (boolean bOnce : BOOLEANS) {
                PlanRules x = started();
                int a = aOnce ? Plans.once(x, 0) : 0;
                int b = bOnce ? Plans.once(x, 1) : 1;
                String aText = Plans.plan(x, a);
                String bText = Plans.plan(x, b);
                due(x, Plans.once(x, Plans.union(x, a, b)), 16, !aOnce || !bOnce,
                    "ONCE(UNION(ONCE(" + aText + "), ONCE(" + bText + ")))");
            }
        }
        PlanRules x = started();
        due(x, Plans.once(x, Plans.union(x, 2, 2)), 16, true, "ONCE(UNION(ONCE(S2), ONCE(S2)))");
    }

    private static void rule17() {
        Check.about("17 FIRST (SET x m f) n: SET (FIRST x n) m f, if f may not FAIL");
        for (int n : new int[] {0, 1, 5, 6, 7, 100}) {
            for (int m = 0; m < 6; m++) {
                for (boolean risky : BOOLEANS) {
                    PlanRules x = started();
                    int f = reading(x, 1 << m, risky);
                    due(x, Plans.first(x, Plans.set(x, 0, m, f), n), 17, !risky,
                        "SET(FIRST(S0; " + n + "); " + m + "; " + f + ")");
                }
            }
        }
    }

    private static void numberedBehindAll() {
        Check.about("what is written within another one is a new NODE, numbered behind all (of several those within ahead of "
            + "those around them, then from the left on)");
        PlanRules x = started();
        int n = Plans.fold(x, Plans.union(x, 0, 1), 0, 1);
        int other = Plans.once(x, Plans.union(x, 1, 0));
        int filter = Plans.filter(x, Plans.union(x, 1, 2), Plans.member(x, 0));
        int keep = Plans.keep(x, Plans.union(x, 2, 1), 3);
        Check.due("rule 12", x.rewrite(n, 12), 14);
        Check.due("the left FOLD", Plans.told(x, 11), "6 0 0 0 1 6 0");
        Check.due("the right FOLD", Plans.told(x, 12), "6 1 0 0 1 6 0");
        Check.due("the UNION around them", Plans.told(x, 13), "5 11 12 0 0 12 0");
        Check.due("the outermost one", Plans.told(x, n), "6 13 0 0 1 12 0");
        Check.due("rule 16", x.rewrite(other, 16), 17);
        Check.due("the left ONCE", Plans.told(x, 14), "7 1 0 0 0 6 0");
        Check.due("the right ONCE", Plans.told(x, 15), "7 0 0 0 0 6 0");
        Check.due("the UNION around them", Plans.told(x, 16), "5 14 15 0 0 12 0");
        Check.due("the outermost one", Plans.told(x, other), "7 16 0 0 0 12 0");
        Check.due("rule 4", x.rewrite(filter, 4), 19);
        Check.due("the left FILTER", Plans.told(x, 17), "1 1 0 0 0 6 0");
        Check.due("the right FILTER", Plans.told(x, 18), "1 2 0 0 0 6 0");
        Check.due("the outermost one", Plans.told(x, filter), "5 17 18 0 0 12 0");
        Check.due("rule 11", x.rewrite(keep, 11), 21);
        Check.due("the left KEEP", Plans.told(x, 19), "3 2 0 0 3 6 0");
        Check.due("the right KEEP", Plans.told(x, 20), "3 1 0 0 3 6 0");
        Check.due("the outermost one", Plans.told(x, keep), "5 19 20 0 0 12 0");
    }

    private static void withItsNumber() {
        Check.about("n is the outermost one then, with its number");
        PlanRules x = started();
        int set = Plans.set(x, 0, 3, Plans.member(x, 0));
        int n = Plans.filter(x, set, Plans.member(x, 1));
        int above = Plans.once(x, n);
        int beside = Plans.once(x, set);
        x.rewrite(n, 0);
        Check.due("it is another kind", Plans.told(x, n), "2 " + (beside + 1) + " 0 3 0 6 0");
        Check.due("the one above stands on it", Plans.plan(x, above), "ONCE(SET(FILTER(S0; 1); 3; 0))");
        Check.due("the one that was below stays, for others", Plans.plan(x, beside), "ONCE(SET(S0; 3; 0))");
    }
}
