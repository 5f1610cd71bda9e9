/** The edges of NODES, BOUND, RUN and of promises 7 to 9 and 11: one method for each sentence. */
public final class EdgesOfNodesTest {
    private static final int BAD = Plans.BAD, FULL = Plans.FULL, MIN = Plans.MIN, MAX = Plans.MAX;

    public static void main(String[] args) {
        sixtyAtMost();
        partsAreNodes();
        sourceGivesItsRows();
        filterGives();
        setGives();
        keepGives();
        joinGives();
        unionGives();
        foldGives();
        foldSumWraps();
        onceGives();
        firstGives();
        boundOfEachKind();
        boundHundredAtMost();
        fullestRun();
        nodeMayFail();
        runWorksEachOnce();
        runWorksInOrder();
        failureEndsIt();
        toldAsNodeHasThem();
        setsAreNoughtTo63();
        foldOfAnotherOne();
        firstOfNoughtToHundred();
        notLookedAt();
        nodeIsBad();
        fullBySixty();
        fullByBound();
        toldIsBad();
        runAnswers();
        runIsBad();
        workedOfNoRun();
        workedOfTheLatestRun();
        workedFormulas();
        workedNodes();
        workedFailedNode();
        workedIsBad();
        Check.end();
    }

    private static void sixtyAtMost() {
        Check.about("NODES 0, 1, .. (60 at most)");
        PlanRules x = new PlanRules();
        Plans.member(x, 0);
        for (int n = 0; n < 59; n++) {
            Check.due("NODE " + n, Plans.source(x, n % 4), n);
        }
        Check.due("NODE 59", Plans.once(x, 58), 59);
        Check.due("count(1)", x.count(1), 60);
        for (int kind = 0; kind < 9; kind++) {
            Check.due("NODE 60, of kind " + kind, x.node(kind, 0, 0, 1, 0), FULL);
        }
        x.row(2, 3, 3, 3);
        Check.due("the last one can be RUN", Plans.rows(x, 59), "1 / 3 3 3 0 0 0");
        Check.due("and told", Plans.told(x, 59), "7 58 0 0 0 6 0");
        Check.due("there is none behind it", x.told(60, 0), BAD);
        Check.due("none to RUN", x.run(60), BAD);
        PlanRules y = new PlanRules();
        Plans.source(y, 0);
        for (int n = 1; n < 60; n++) {
            Plans.once(y, n - 1);
        }
        y.row(0, 1, 1, 1);
        Check.due("a chain of all 60", y.run(59), 1);
        Check.due("all are worked", y.worked(2), 60);
    }

    private static void partsAreNodes() {
        Check.about("a, b are NODES");
        PlanRules x = new PlanRules();
        Plans.member(x, 0);
        for (int kind = 1; kind < 9; kind++) {
            Check.due("kind " + kind + " where there is no NODE", x.node(kind, 0, 0, 1, 0), BAD);
        }
        Plans.source(x, 0);
        for (int kind = 1; kind < 9; kind++) {
            Check.due("kind " + kind + " on itself", x.node(kind, 1, 0, 1, 0), BAD);
            Check.due("kind " + kind + " below 0", x.node(kind, -1, 0, 1, 0), BAD);
        }
        for (int kind = 4; kind < 6; kind++) {
            Check.due("kind " + kind + " with itself", x.node(kind, 0, 1, 1, 0), BAD);
            Check.due("kind " + kind + " with one below 0", x.node(kind, 0, -1, 1, 0), BAD);
        }
        Check.due("the last one told", x.node(7, 0, 0, 0, 0), 1);
    }

    /** SOURCE 0: three ROWS; SOURCE 1: two; SOURCE 2: none; as NODES 0 to 2; MEMBERS as FORMULAS 0 to 5. */
    private static PlanRules started() {
        PlanRules x = new PlanRules();
        x.row(0, 1, 5, 0);
        x.row(0, 2, 0, -1);
        x.row(0, 1, -5, 7);
        x.row(1, 1, 8, 9);
        x.row(1, 2, 8, 9);
        for (int source = 0; source < 3; source++) {
            Plans.source(x, source);
        }
        for (int m = 0; m < 6; m++) {
            Plans.member(x, m);
        }
        return x;
    }

    private static void due(String what, PlanRules x, int n, String want) {
        Check.due(what, Plans.rows(x, n), want);
    }

    private static void sourceGivesItsRows() {
        Check.about("0 SOURCE a: its ROWS");
        PlanRules x = started();
        due("without ROWS", x, 2, "0");
        due("with two", x, 1, "2 / 1 8 9 0 0 0 / 2 8 9 0 0 0");
        x.row(2, 3, 3, 3);
        due("those that it has at the RUN", x, 2, "1 / 3 3 3 0 0 0");
        x.clear(2);
        due("cleared", x, 2, "0");
    }

    private static void filterGives() {
        Check.about("1 FILTER a, f: those of a for which FORMULA f is not 0");
        PlanRules x = started();
        due("below 0 is not 0", x, Plans.filter(x, 0, 1), "2 / 1 5 0 0 0 0 / 1 -5 7 0 0 0");
        due("the last two", x, Plans.filter(x, 0, 2), "2 / 2 0 -1 0 0 0 / 1 -5 7 0 0 0");
        due("none", x, Plans.filter(x, 0, 5), "0");
        due("all", x, Plans.filter(x, 1, 0), "2 / 1 8 9 0 0 0 / 2 8 9 0 0 0");
        due("of none", x, Plans.filter(x, 2, Plans.number(x, 1)), "0");
        due("MIN is not 0", x, Plans.filter(x, 1, Plans.number(x, MIN)), "2 / 1 8 9 0 0 0 / 2 8 9 0 0 0");
    }

    private static void setGives() {
        Check.about("2 SET a, m, f: MEMBER m becomes f");
        PlanRules x = started();
        due("MEMBER 0, the least", x, Plans.set(x, 1, 0, 2), "2 / 9 8 9 0 0 0 / 9 8 9 0 0 0");
        due("MEMBER 5, the greatest", x, Plans.set(x, 1, 5, 0), "2 / 1 8 9 0 0 1 / 2 8 9 0 0 2");
        int more = x.formula(Plans.SUM, 0, 1);
        due("to what it READS itself", x, Plans.set(x, 1, 0, more), "2 / 9 8 9 0 0 0 / 10 8 9 0 0 0");
        due("to itself", x, Plans.set(x, 1, 1, 1), "2 / 1 8 9 0 0 0 / 2 8 9 0 0 0");
        due("of none", x, Plans.set(x, 2, 0, 1), "0");
        due("what is below stays", x, 1, "2 / 1 8 9 0 0 0 / 2 8 9 0 0 0");
    }

    private static void keepGives() {
        Check.about("3 KEEP a, s: all MEMBERS but those of the set s become 0 (of sets MEMBER i is bit i)");
        for (int s = 0; s < 64; s++) {
            PlanRules x = new PlanRules();
            x.row(0, 1, 2, 3);
            int n = Plans.source(x, 0);
            for (int m = 3; m < 6; m++) {
                n = Plans.set(x, n, m, Plans.number(x, m + 1));
            }
            StringBuilder want = new StringBuilder("1 /");
            for (int m = 0; m < 6; m++) {
                want.append(' ').append((s >> m & 1) == 1 ? m + 1 : 0);
            }
            due("KEEP of " + s, x, Plans.keep(x, n, s), want.toString());
        }
        PlanRules x = started();
        due("of none", x, Plans.keep(x, 2, 63), "0");
        due("nothing of two ROWS: two ROWS", x, Plans.keep(x, 1, 0), "2 / 0 0 0 0 0 0 / 0 0 0 0 0 0");
    }

    private static void joinGives() {
        Check.about("4 JOIN a, b, m, s: for each ROW of a, for each of b that has the same MEMBER m");
        PlanRules x = started();
        due("s is empty: all of a", x, Plans.join(x, 0, 1, 0, 0), "3 / 1 5 0 0 0 0 / 2 0 -1 0 0 0 / 1 -5 7 0 0 0");
        due("s is all: all of b", x, Plans.join(x, 0, 1, 0, 63), "3 / 1 8 9 0 0 0 / 2 8 9 0 0 0 / 1 8 9 0 0 0");
        due("one of b", x, Plans.join(x, 0, 1, 0, 4), "3 / 1 5 9 0 0 0 / 2 0 9 0 0 0 / 1 -5 9 0 0 0");
        due("a is the outer one", x, Plans.join(x, 1, 0, 0, 2), "3 / 1 5 9 0 0 0 / 1 -5 9 0 0 0 / 2 0 9 0 0 0");
        due("none is the same", x, Plans.join(x, 0, 1, 1, 63), "0");
        due("MEMBER 5, 0 in all", x, Plans.join(x, 1, 1, 5, 1),
            "4 / 1 8 9 0 0 0 / 2 8 9 0 0 0 / 1 8 9 0 0 0 / 2 8 9 0 0 0");
        due("a without ROWS", x, Plans.join(x, 2, 0, 5, 63), "0");
        due("b without ROWS", x, Plans.join(x, 0, 2, 5, 0), "0");
        due("both without ROWS", x, Plans.join(x, 2, 2, 5, 63), "0");
        PlanRules y = new PlanRules();
        for (int i = 0; i < 6; i++) {
            y.row(0, MIN, i, 0);
            y.row(1, i == 0 ? MAX : MIN, 0, i);
        }
        int join = Plans.join(y, Plans.source(y, 0), Plans.source(y, 1), 0, 4);
        Check.due("MIN is not MAX: 6 times 5", y.run(join), 30);
        Check.due("the last", y.member(29, 1) + 10 * y.member(29, 2), 55);
        Check.due("as many as the BOUND", y.run(Plans.join(y, 0, 0, 0, 0)), 36);
    }

    private static void unionGives() {
        Check.about("5 UNION a, b: those of a, then those of b");
        PlanRules x = started();
        due("two and three", x, Plans.union(x, 1, 0),
            "5 / 1 8 9 0 0 0 / 2 8 9 0 0 0 / 1 5 0 0 0 0 / 2 0 -1 0 0 0 / 1 -5 7 0 0 0");
        due("a without ROWS", x, Plans.union(x, 2, 1), "2 / 1 8 9 0 0 0 / 2 8 9 0 0 0");
        due("b without ROWS", x, Plans.union(x, 1, 2), "2 / 1 8 9 0 0 0 / 2 8 9 0 0 0");
        due("both without ROWS", x, Plans.union(x, 2, 2), "0");
        due("with itself", x, Plans.union(x, 1, 1), "4 / 1 8 9 0 0 0 / 2 8 9 0 0 0 / 1 8 9 0 0 0 / 2 8 9 0 0 0");
    }

    private static void foldGives() {
        Check.about("6 FOLD a, m, k: for each number that is MEMBER m of ROWS of a, as they come first");
        PlanRules x = started();
        due("by 0 of 1", x, Plans.fold(x, 0, 0, 1), "2 / 1 0 0 0 0 0 / 2 0 0 0 0 0");
        due("by 0 of 2", x, Plans.fold(x, 0, 0, 2), "2 / 1 0 7 0 0 0 / 2 0 -1 0 0 0");
        due("by 2 of 0, all are others", x, Plans.fold(x, 0, 2, 0), "3 / 1 0 0 0 0 0 / 2 0 -1 0 0 0 / 1 0 7 0 0 0");
        due("by 1 of 0, all are the same", x, Plans.fold(x, 1, 1, 0), "1 / 3 8 0 0 0 0");
        due("by 5 of 0", x, Plans.fold(x, 0, 5, 0), "1 / 4 0 0 0 0 0");
        due("by 0 of 5", x, Plans.fold(x, 0, 0, 5), "2 / 1 0 0 0 0 0 / 2 0 0 0 0 0");
        due("by 5 of 4: a ROW of noughts", x, Plans.fold(x, 0, 5, 4), "1 / 0 0 0 0 0 0");
        due("of none: none", x, Plans.fold(x, 2, 5, 4), "0");
    }

    private static void foldSumWraps() {
        Check.about("6 FOLD: the sum (all that is reckoned wraps)");
        PlanRules x = new PlanRules();
        x.row(0, MIN, MAX, 0);
        x.row(0, MAX, MIN, 0);
        x.row(0, MIN, MAX, 0);
        x.row(0, MAX, -1, 0);
        x.row(0, MIN, 3, 0);
        int source = Plans.source(x, 0);
        due("above MAX and below MIN", x, Plans.fold(x, source, 0, 1),
            "2 / -2147483648 1 0 0 0 0 / 2147483647 2147483647 0 0 0 0");
    }

    private static void onceGives() {
        Check.about("7 ONCE a: of like ROWS the first one");
        PlanRules x = started();
        due("of none", x, Plans.once(x, 2), "0");
        due("none are like", x, Plans.once(x, 1), "2 / 1 8 9 0 0 0 / 2 8 9 0 0 0");
        due("all are like", x, Plans.once(x, Plans.keep(x, 0, 0)), "1 / 0 0 0 0 0 0");
        due("the first ones", x, Plans.once(x, Plans.keep(x, Plans.union(x, 0, 1), 1)), "2 / 1 0 0 0 0 0 / 2 0 0 0 0 0");
        int nine = Plans.number(x, 9);
        for (int m = 0; m < 6; m++) {
            int blank = Plans.keep(x, Plans.first(x, 0, 1), 0);
            int n = Plans.union(x, blank, Plans.set(x, blank, m, nine));
            Check.due("they differ in MEMBER " + m, x.run(Plans.once(x, n)), 2);
        }
        onceLooksAtNoOtherRow();
    }

    /** The ROWS ahead of two like ones differ in the MEMBERS that stand next to theirs. */
    private static void onceLooksAtNoOtherRow() {
        PlanRules x = new PlanRules();
        x.row(0, 1, 0, 0);
        x.row(0, 2, 0, 3);
        x.row(0, 1, 0, 0);
        x.row(0, 2, 0, 4);
        x.row(0, 1, 0, 0);
        int set = Plans.set(x, Plans.source(x, 0), 5, Plans.member(x, 2));
        due("like ones behind unlike ones", x, Plans.once(x, set), "3 / 1 0 0 0 0 0 / 2 0 3 0 0 3 / 2 0 4 0 0 4");
    }

    private static void firstGives() {
        Check.about("8 FIRST a, n: the first n");
        PlanRules x = started();
        due("0", x, Plans.first(x, 0, 0), "0");
        due("1", x, Plans.first(x, 0, 1), "1 / 1 5 0 0 0 0");
        due("one less than there are", x, Plans.first(x, 0, 2), "2 / 1 5 0 0 0 0 / 2 0 -1 0 0 0");
        due("as many", x, Plans.first(x, 1, 2), "2 / 1 8 9 0 0 0 / 2 8 9 0 0 0");
        due("one more", x, Plans.first(x, 1, 3), "2 / 1 8 9 0 0 0 / 2 8 9 0 0 0");
        due("100", x, Plans.first(x, 1, 100), "2 / 1 8 9 0 0 0 / 2 8 9 0 0 0");
        due("0 of none", x, Plans.first(x, 2, 0), "0");
        due("100 of none", x, Plans.first(x, 2, 100), "0");
    }

    private static void boundOfEachKind() {
        Check.about("BOUND: SOURCE 6; JOIN that of a times that of b; UNION their sum; FIRST n, if that is less than a's; "
            + "else a's");
        PlanRules x = started();
        Check.due("a SOURCE with ROWS", x.told(0, 5), 6);
        Check.due("a SOURCE without ROWS", x.told(2, 5), 6);
        int five = Plans.first(x, 0, 5);
        int none = Plans.first(x, 0, 0);
        Check.due("FIRST 5 of 6", x.told(five, 5), 5);
        Check.due("FIRST 6 of 6", x.told(Plans.first(x, 0, 6), 5), 6);
        Check.due("FIRST 7 of 6", x.told(Plans.first(x, 0, 7), 5), 6);
        Check.due("FIRST 100 of 6", x.told(Plans.first(x, 0, 100), 5), 6);
        Check.due("FIRST 0 of 6", x.told(none, 5), 0);
        Check.due("JOIN 6, 5", x.told(Plans.join(x, 0, five, 0, 0), 5), 30);
        Check.due("JOIN 5, 6", x.told(Plans.join(x, five, 0, 0, 0), 5), 30);
        Check.due("JOIN 6, 0", x.told(Plans.join(x, 0, none, 0, 0), 5), 0);
        Check.due("UNION 5, 6", x.told(Plans.union(x, five, 0), 5), 11);
        Check.due("UNION 0, 0", x.told(Plans.union(x, none, none), 5), 0);
        int eleven = Plans.union(x, five, 0);
        Check.due("FILTER", x.told(Plans.filter(x, eleven, 0), 5), 11);
        Check.due("SET", x.told(Plans.set(x, eleven, 0, 0), 5), 11);
        Check.due("KEEP", x.told(Plans.keep(x, eleven, 0), 5), 11);
        Check.due("FOLD", x.told(Plans.fold(x, eleven, 0, 1), 5), 11);
        Check.due("ONCE", x.told(Plans.once(x, eleven), 5), 11);
    }

    private static void boundHundredAtMost() {
        Check.about("It (BOUND) is 100 at most");
        PlanRules x = started();
        int ten = Plans.union(x, 0, Plans.first(x, 1, 4));
        int hundred = Plans.join(x, ten, ten, 5, 0);
        Check.due("JOIN 10, 10", x.told(hundred, 5), 100);
        int eleven = Plans.union(x, 0, Plans.first(x, 1, 5));
        int nine = Plans.union(x, 0, Plans.first(x, 1, 3));
        Check.due("JOIN 10, 11", Plans.join(x, ten, eleven, 0, 0), FULL);
        Check.due("JOIN 11, 9", x.told(Plans.join(x, eleven, nine, 0, 0), 5), 99);
        int one = Plans.first(x, 0, 1);
        int none = Plans.first(x, 0, 0);
        Check.due("UNION 100, 1", Plans.union(x, hundred, one), FULL);
        Check.due("UNION 1, 100", Plans.union(x, one, hundred), FULL);
        Check.due("UNION 100, 0", x.told(Plans.union(x, hundred, none), 5), 100);
        Check.due("UNION 99, 1", x.told(Plans.union(x, Plans.first(x, hundred, 99), one), 5), 100);
        Check.due("UNION 99, 2", Plans.union(x, Plans.first(x, hundred, 99), Plans.first(x, 0, 2)), FULL);
        Check.due("JOIN 100, 1", x.told(Plans.join(x, hundred, one, 0, 0), 5), 100);
        Check.due("JOIN 100, 2", Plans.join(x, hundred, Plans.first(x, 0, 2), 0, 0), FULL);
        Check.due("JOIN 100, 100", Plans.join(x, hundred, hundred, 0, 0), FULL);
        Check.due("FIRST 100 of 100", x.told(Plans.first(x, hundred, 100), 5), 100);
        Check.due("FIRST 99 of 100", x.told(Plans.first(x, hundred, 99), 5), 99);
        PlanRules y = new PlanRules();
        for (int i = 0; i < 6; i++) {
            y.row(0, i, 0, 0);
        }
        int tens = Plans.union(y, Plans.source(y, 0), Plans.first(y, 0, 4));
        Check.due("100 ROWS", y.run(Plans.join(y, tens, tens, 5, 0)), 100);
        Check.due("the last one", y.member(99, 0), 3);
    }

    private static void fullestRun() {
        Check.about("60 NODES, BOUND 100 at most: the greatest RUN, as often as 512 calls let it");
        PlanRules x = new PlanRules();
        for (int i = 0; i < 6; i++) {
            x.row(0, i, i, i);
        }
        int ten = Plans.union(x, Plans.source(x, 0), Plans.first(x, 0, 4));
        int top = Plans.join(x, ten, ten, 5, 2);
        for (int n = top + 1; n < 60; n++) {
            top = Plans.keep(x, top, 63);
        }
        for (int i = 0; i < 430; i++) {
            Check.due("RUN " + i, x.run(top), 100);
        }
        Check.due("all are worked", Plans.worked(x), "0 0 60 -1");
        Check.due("the last ROW", x.member(99, 0) + " " + x.member(99, 1) + " " + x.member(99, 3), "3 3 0");
        Check.due("the one ahead of it", x.member(98, 0) + " " + x.member(98, 1), "3 2");
        Check.due("none behind it", x.member(100, 0), 0);
    }

    private static void nodeMayFail() {
        Check.about("It MAY FAIL, if a FORMULA of it or of NODES below (a, b, theirs, ..) may");
        PlanRules x = started();
        int risky = Plans.risky(x, 1);
        Check.due("a SOURCE", x.told(0, 6), 0);
        int filter = Plans.filter(x, 0, risky);
        int set = Plans.set(x, 0, 3, risky);
        Check.due("its own FILTER", x.told(filter, 6), 1);
        Check.due("its own SET", x.told(set, 6), 1);
        Check.due("a safe FILTER", x.told(Plans.filter(x, 0, 0), 6), 0);
        Check.due("a safe SET", x.told(Plans.set(x, 0, 3, 0), 6), 0);
        int[] above = {Plans.filter(x, set, 0), Plans.set(x, set, 3, 0), Plans.keep(x, set, 0), Plans.join(x, set, 0, 0, 0),
            Plans.union(x, set, 0), Plans.fold(x, set, 0, 1), Plans.once(x, set), Plans.first(x, set, 0)};
        for (int n : above) {
            Check.due("below in a, kind " + x.told(n, 0), x.told(n, 6), 1);
        }
        Check.due("JOIN, below in b", x.told(Plans.join(x, 0, set, 0, 0), 6), 1);
        Check.due("UNION, below in b", x.told(Plans.union(x, 0, set), 6), 1);
        int deep = filter;
        for (int i = 0; i < 20; i++) {
            deep = Plans.once(x, deep);
        }
        Check.due("twenty below", x.told(deep, 6), 1);
        Check.due("JOIN on safe ones", x.told(Plans.join(x, 0, 1, 0, risky), 6), 0);
        Check.due("KEEP of a set with the number of a FORMULA", x.told(Plans.keep(x, 0, risky), 6), 0);
        Check.due("FIRST of as many", x.told(Plans.first(x, 0, risky), 6), 0);
        PlanRules y = new PlanRules();
        Plans.source(y, 0);
        int first = Plans.filter(y, 0, Plans.risky(y, 1));
        Check.due("a SOURCE with the number of a NODE that may", y.told(Plans.source(y, first), 6), 0);
        Check.due("a ONCE whose b is not looked at", y.told(y.node(Plans.ONCE, 0, first, 0, 0), 6), 0);
    }

    private static void runWorksEachOnce() {
        Check.about("A RUN of a NODE works the NODES below, each once a RUN");
        PlanRules x = started();
        int filter = Plans.filter(x, 0, 0);
        int top = Plans.union(x, Plans.join(x, filter, filter, 0, 0), filter);
        Check.due("the first RUN", x.run(top), 8);
        Check.due("worked", Plans.worked(x), "0 3 4 -1");
        Check.due("a second one", x.run(top), 8);
        Check.due("works them anew", Plans.worked(x), "0 3 4 -1");
        x.clear(0);
        Check.due("with what is there then", x.run(top), 0);
        Check.due("all NODES are worked", Plans.worked(x), "0 0 4 -1");
        Check.due("those beside it are not", x.run(filter), 0);
        Check.due("worked", Plans.worked(x), "0 0 2 -1");
        Check.due("a SOURCE alone", x.run(0), 0);
        Check.due("worked", Plans.worked(x), "0 0 1 -1");
    }

    private static void runWorksInOrder() {
        Check.about("A RUN works a ahead of b, then itself");
        PlanRules x = started();
        int zero = x.formula(Plans.QUOTIENT, 0, 5);
        int index = x.formula(Plans.ITEM, 1, 0);
        int byZero = Plans.filter(x, 1, zero);
        int byIndex = Plans.filter(x, 1, index);
        for (int kind = 4; kind < 6; kind++) {
            int one = x.node(kind, byZero, byIndex, 0, 0);
            int other = x.node(kind, byIndex, byZero, 0, 0);
            Check.due("ZERO first", x.run(one), -11);
            Check.due("the NODE", x.worked(3), byZero);
            Check.due("INDEX first", x.run(other), -12);
            Check.due("the NODE", x.worked(3), byIndex);
            Check.due("it is not worked itself", x.run(Plans.filter(x, one, index)), -11);
        }
        int late = Plans.union(x, 0, byIndex);
        Check.due("b ahead of itself", x.run(Plans.filter(x, late, zero)), -12);
        Check.due("a, b, not itself", x.worked(2), 3);
    }

    private static void failureEndsIt() {
        Check.about("ROW by ROW; a FORMULA that FAILS ends it");
        PlanRules x = new PlanRules();
        x.row(0, 1, 1, 0);
        x.row(0, 8, 1, 0);
        x.row(0, 1, 0, 0);
        int source = Plans.source(x, 0);
        int quotient = x.formula(Plans.QUOTIENT, Plans.member(x, 0), Plans.member(x, 1));
        int item = x.formula(Plans.ITEM, 0, 0);
        int both = x.formula(Plans.SUM, quotient, item);
        Check.due("the second ROW is first to FAIL", x.run(Plans.set(x, source, 4, both)), -12);
        Check.due("two ROWS were worked", x.worked(1), 6 + 6);
        Check.due("the third ROW", x.run(Plans.set(x, source, 4, quotient)), -11);
        Check.due("three ROWS were worked", x.worked(1), 9);
        Check.due("a FIRST above does not hide it", x.run(Plans.first(x, Plans.filter(x, source, quotient), 1)), -11);
        Check.due("a FIRST 0 neither", x.run(Plans.first(x, Plans.filter(x, source, quotient), 0)), -11);
        Check.due("a FIRST below does", x.run(Plans.filter(x, Plans.first(x, source, 2), quotient)), 2);
        Check.due("a FIRST 0 below, too", x.run(Plans.filter(x, Plans.first(x, source, 0), item)), 0);
    }

    private static void toldAsNodeHasThem() {
        Check.about("Promise 8: 0 its kind, 1 a, 2 b, 3 m, 4 v, as node() has them (0: its kind has none)");
        PlanRules x = started();
        int odd = -9;
        Check.due("SOURCE", Plans.told(x, x.node(0, 3, odd, odd, odd)), "0 3 0 0 0 6 0");
        Check.due("FILTER", Plans.told(x, x.node(1, 2, odd, odd, 5)), "1 2 0 0 5 6 0");
        Check.due("SET", Plans.told(x, x.node(2, 2, odd, 5, 4)), "2 2 0 5 4 6 0");
        Check.due("KEEP", Plans.told(x, x.node(3, 2, odd, odd, 63)), "3 2 0 0 63 6 0");
        Check.due("JOIN", Plans.told(x, x.node(4, 2, 1, 5, 63)), "4 2 1 5 63 36 0");
        Check.due("UNION", Plans.told(x, x.node(5, 2, 1, odd, odd)), "5 2 1 0 0 12 0");
        Check.due("FOLD", Plans.told(x, x.node(6, 2, odd, 5, 4)), "6 2 0 5 4 6 0");
        Check.due("ONCE", Plans.told(x, x.node(7, 2, odd, odd, odd)), "7 2 0 0 0 6 0");
        Check.due("FIRST", Plans.told(x, x.node(8, 2, odd, odd, 100)), "8 2 0 0 100 6 0");
    }

    private static void setsAreNoughtTo63() {
        Check.about("Promise 7: sets (0 to 63)");
        for (int s = -1; s <= 64; s++) {
            PlanRules x = started();
            boolean good = s >= 0 && s < 64;
            Check.due("KEEP of " + s, Plans.keep(x, 0, s), good ? 3 : BAD);
            Check.due("JOIN of " + s, Plans.join(x, 0, 1, 0, s), good ? 4 : BAD);
            Check.due("count(1)", x.count(1), good ? 5 : 3);
            Check.due("KEEP is told", x.told(3, 4), good ? s : BAD);
            Check.due("JOIN is told", x.told(4, 4), good ? s : BAD);
        }
    }

    private static void foldOfAnotherOne() {
        Check.about("Promise 7: FOLD: m, v is k, another one");
        for (int m = -1; m <= 6; m++) {
            for (int k = -1; k <= 6; k++) {
                PlanRules x = started();
                boolean good = m >= 0 && m < 6 && k >= 0 && k < 6 && m != k;
                Check.due("FOLD by " + m + " of " + k, Plans.fold(x, 0, m, k), good ? 3 : BAD);
                Check.due("count(1)", x.count(1), good ? 4 : 3);
            }
        }
    }

    private static void firstOfNoughtToHundred() {
        Check.about("Promise 7: FIRST: v is n, 0 to 100");
        for (int n = -1; n <= 101; n++) {
            PlanRules x = started();
            boolean good = n >= 0 && n <= 100;
            Check.due("FIRST " + n, Plans.first(x, 0, n), good ? 3 : BAD);
            Check.due("it is told", x.told(3, 4), good ? n : BAD);
        }
    }

    private static void notLookedAt() {
        Check.about("Promise 7: (What a kind has not is not looked at.)");
        for (int odd : new int[] {MIN, -1, 59, 60, 64, 101, MAX}) {
            PlanRules x = started();
            Check.due("SOURCE", x.node(0, 0, odd, odd, odd), 3);
            Check.due("FILTER", x.node(1, 0, odd, odd, 0), 4);
            Check.due("SET", x.node(2, 0, odd, 0, 0), 5);
            Check.due("KEEP", x.node(3, 0, odd, odd, 0), 6);
            Check.due("UNION", x.node(5, 0, 0, odd, odd), 7);
            Check.due("FOLD", x.node(6, 0, odd, 0, 1), 8);
            Check.due("ONCE", x.node(7, 0, odd, odd, odd), 9);
            Check.due("FIRST", x.node(8, 0, odd, odd, 0), 10);
        }
    }

    private static void nodeIsBad() {
        Check.about("Promise 7: BAD: kind, SOURCE, NODES, MEMBERS, sets (0 to 63), FORMULAS");
        for (int wrong : new int[] {-1, MIN, MAX}) {
            nodeRefuses(wrong, 0, 0, 0, 0);
            nodeRefuses(0, wrong, 0, 0, 0);
            for (int kind = 1; kind < 9; kind++) {
                nodeRefuses(kind, wrong, 0, 0, 1);
            }
            nodeRefuses(4, 0, wrong, 0, 0);
            nodeRefuses(5, 0, wrong, 0, 0);
            nodeRefuses(2, 0, 0, wrong, 0);
            nodeRefuses(4, 0, 0, wrong, 0);
            nodeRefuses(6, 0, 0, wrong, 0);
            for (int kind : new int[] {1, 2, 3, 4, 6, 8}) {
                nodeRefuses(kind, 0, 0, 0, wrong);
            }
        }
        nodeRefuses(9, 0, 0, 0, 0);
        nodeRefuses(0, 4, 0, 0, 0);
        for (int kind = 1; kind < 9; kind++) {
            nodeRefuses(kind, 15, 0, 0, 1);
            nodeRefuses(kind, 60, 0, 0, 1);
        }
        nodeRefuses(4, 0, 15, 0, 0);
        nodeRefuses(5, 0, 15, 0, 0);
        nodeRefuses(2, 0, 0, 6, 0);
        nodeRefuses(4, 0, 0, 6, 0);
        nodeRefuses(6, 0, 0, 6, 0);
        nodeRefuses(6, 0, 0, 0, 6);
        nodeRefuses(6, 0, 0, 0, 0);
        nodeRefuses(6, 0, 0, 5, 5);
        nodeRefuses(3, 0, 0, 0, 64);
        nodeRefuses(4, 0, 0, 0, 64);
        nodeRefuses(1, 0, 0, 0, 25);
        nodeRefuses(2, 0, 0, 0, 25);
        nodeRefuses(8, 0, 0, 0, 101);
    }

    /** Of Twins.ordinary(), that has 25 FORMULAS and 15 NODES. */
    private static void nodeRefuses(int kind, int a, int b, int m, int v) {
        Twins.refuse("node(" + kind + ", " + a + ", " + b + ", " + m + ", " + v + ")", Twins::ordinary, BAD,
            (x, n) -> x.node(kind, a, b, m, v));
    }

    private static int fullOfNodes(PlanRules x) {
        Twins.ordinary(x);
        Twins.fillNodes(x, 0);
        return 60;
    }

    private static void fullBySixty() {
        Check.about("Promise 7: FULL: 60 are there");
        for (int kind = 0; kind < 9; kind++) {
            int of = kind;
            Twins.refuse("kind " + kind, EdgesOfNodesTest::fullOfNodes, FULL, (x, n) -> x.node(of, 0, 0, 0, 1));
        }
        Twins.refuse("a wrong kind", EdgesOfNodesTest::fullOfNodes, BAD, (x, n) -> x.node(9, 0, 0, 0, 1));
        Twins.refuse("a wrong NODE", EdgesOfNodesTest::fullOfNodes, BAD, (x, n) -> x.node(7, 60, 0, 0, 1));
        Twins.refuse("a wrong set", EdgesOfNodesTest::fullOfNodes, BAD, (x, n) -> x.node(3, 0, 0, 0, 64));
        Twins.refuse("a wrong FORMULA", EdgesOfNodesTest::fullOfNodes, BAD, (x, n) -> x.node(1, 0, 0, 0, 25));
    }

    /** It answers a NODE whose BOUND is 100, on few ROWS; FIRST 1 and FIRST 2 stand before it. */
    private static int hundred(PlanRules x) {
        Twins.ordinary(x);
        int ten = Plans.union(x, 3, Plans.first(x, 3, 4));
        Plans.first(x, 3, 1);
        Plans.first(x, 3, 2);
        return Plans.join(x, ten, ten, 0, 0);
    }

    private static void fullByBound() {
        Check.about("Promise 7: FULL: its BOUND would be above 100");
        Twins.refuse("UNION 100, 1", EdgesOfNodesTest::hundred, FULL, (x, n) -> Plans.union(x, n, n - 2));
        Twins.refuse("UNION 1, 100", EdgesOfNodesTest::hundred, FULL, (x, n) -> Plans.union(x, n - 2, n));
        Twins.refuse("JOIN 100, 2", EdgesOfNodesTest::hundred, FULL, (x, n) -> Plans.join(x, n, n - 1, 0, 0));
        Twins.refuse("JOIN 2, 100", EdgesOfNodesTest::hundred, FULL, (x, n) -> Plans.join(x, n - 1, n, 0, 0));
        Twins.refuse("JOIN 100, 100", EdgesOfNodesTest::hundred, FULL, (x, n) -> Plans.join(x, n, n, 0, 0));
        Twins.refuse("a wrong MEMBER", EdgesOfNodesTest::hundred, BAD, (x, n) -> Plans.join(x, n, n, 6, 0));
        Twins.refuse("a wrong set", EdgesOfNodesTest::hundred, BAD, (x, n) -> Plans.join(x, n, n, 0, 64));
        PlanRules x = new PlanRules();
        int n = hundred(x);
        Check.due("JOIN 100, 1 has room", Plans.join(x, n, n - 2, 0, 0), n + 1);
    }

    private static void toldIsBad() {
        Check.about("Promise 8: BAD: the NODE, what");
        for (int node : new int[] {-1, 15, 60, MIN, MAX}) {
            for (int what = 0; what < 7; what++) {
                int asked = what;
                Twins.refuse("told(" + node + ", " + what + ")", Twins::ordinary, BAD, (x, n) -> x.told(node, asked));
            }
        }
        for (int what : new int[] {-1, 7, MIN, MAX}) {
            Twins.refuse("told(0, " + what + ")", Twins::ordinary, BAD, (x, n) -> x.told(0, what));
            Twins.refuse("told(14, " + what + ")", Twins::ordinary, BAD, (x, n) -> x.told(14, what));
        }
    }

    private static void runAnswers() {
        Check.about("Promise 9: A NODE is RUN: how many ROWS it gives; -10 less the FAILURE");
        PlanRules x = started();
        Check.due("none", x.run(2), 0);
        Check.due("three", x.run(0), 3);
        Check.due("ZERO", x.run(Plans.filter(x, 0, x.formula(Plans.QUOTIENT, 0, 5))), -11);
        Check.due("INDEX", x.run(Plans.filter(x, 0, x.formula(Plans.ITEM, 1, 0))), -12);
        Check.due("none to FAIL for", x.run(Plans.filter(x, 2, x.formula(Plans.ITEM, 1, 0))), 0);
        Check.due("three after it", x.run(0), 3);
    }

    private static void runIsBad() {
        Check.about("Promise 9: BAD");
        for (int node : new int[] {-1, 15, 60, MIN, MAX}) {
            Twins.refuse("run(" + node + ")", Twins::ordinary, BAD, (x, n) -> x.run(node));
            Twins.refuse("run(" + node + ") after a FAILURE", Twins::failed, BAD, (x, n) -> x.run(node));
        }
        Twins.refuse("run(0) of a new object", x -> 0, BAD, (x, n) -> x.run(0));
    }

    private static void workedOfNoRun() {
        Check.about("Promise 11: there was no run() yet");
        PlanRules x = new PlanRules();
        Check.due("worked()", Plans.worked(x), "0 0 0 -1");
        x.run(0);
        Check.due("worked() after a BAD run", Plans.worked(x), "0 0 0 -1");
        Check.due("worked(4)", x.worked(4), BAD);
    }

    private static void workedOfTheLatestRun() {
        Check.about("Promise 11: Of the latest run() that was not BAD");
        PlanRules x = started();
        int fails = Plans.filter(x, 1, x.formula(Plans.QUOTIENT, 0, 5));
        x.run(fails);
        Check.due("one that FAILED", Plans.worked(x), "1 3 2 " + fails);
        x.run(-1);
        x.run(60);
        Check.due("BAD ones are none", Plans.worked(x), "1 3 2 " + fails);
        x.run(2);
        Check.due("a later one", Plans.worked(x), "0 0 1 -1");
        x.row(2, 1, 1, 1);
        x.rewrite(fails, 0);
        x.sweep(fails, 100);
        Check.due("other calls change nothing", Plans.worked(x), "0 0 1 -1");
    }

    private static void workedFormulas() {
        Check.about("Promise 11: 1 how many FORMULAS were worked (each time; also one that FAILED)");
        PlanRules x = started();
        int twice = x.formula(Plans.SUM, 0, 0);
        x.run(Plans.set(x, 1, 3, twice));
        Check.due("each time: 3 for 2 ROWS", x.worked(1), 6);
        x.run(Plans.filter(x, 2, twice));
        Check.due("for no ROW", x.worked(1), 0);
        int quotient = x.formula(Plans.QUOTIENT, 0, 1);
        x.run(Plans.set(x, 0, 3, quotient));
        Check.due("the second ROW FAILS", x.worked(1), 6);
        int item = x.formula(Plans.ITEM, 1, 0);
        x.run(Plans.set(x, 1, 3, item));
        Check.due("the first ROW FAILS", x.worked(1), 2);
        int alone = x.formula(Plans.ITEM, Plans.number(x, -1), 0);
        x.run(Plans.union(x, Plans.filter(x, 1, 0), Plans.filter(x, 1, alone)));
        Check.due("those of other NODES ahead of it", x.worked(1), 2 + 2);
    }

    private static void workedNodes() {
        Check.about("Promise 11: 2 how many NODES were worked (also one that FAILED)");
        PlanRules x = started();
        x.run(0);
        Check.due("one", x.worked(2), 1);
        int fails = Plans.filter(x, 1, x.formula(Plans.QUOTIENT, 0, 5));
        x.run(fails);
        Check.due("below it, and itself", x.worked(2), 2);
        x.run(Plans.once(x, Plans.union(x, fails, 0)));
        Check.due("not b of what is above, nor that", x.worked(2), 2);
        x.run(Plans.once(x, Plans.union(x, 0, fails)));
        Check.due("a of what is above", x.worked(2), 3);
    }

    private static void workedFailedNode() {
        Check.about("Promise 11: 0 the FAILURE (0: none), 3 the NODE that FAILED (-1)");
        PlanRules x = new PlanRules();
        Plans.member(x, 0);
        int fails = Plans.filter(x, Plans.source(x, 0), x.formula(Plans.ITEM, 0, 0));
        x.row(0, 8, 0, 0);
        int top = Plans.once(x, fails);
        x.run(top);
        Check.due("the FAILURE", x.worked(0), 2);
        Check.due("the NODE that FAILED, not the one RUN", x.worked(3), fails);
        x.clear(0);
        x.run(top);
        Check.due("no FAILURE", x.worked(0), 0);
        Check.due("no NODE", x.worked(3), -1);
        x.row(0, 8, 0, 0);
        x.run(fails);
        Check.due("the one RUN", x.worked(3), fails);
    }

    private static void workedIsBad() {
        Check.about("Promise 11: BAD");
        for (int what : new int[] {-1, 4, MIN, MAX}) {
            Twins.refuse("worked(" + what + ")", Twins::ordinary, BAD, (x, n) -> x.worked(what));
            Twins.refuse("worked(" + what + ") after a FAILURE", Twins::failed, BAD, (x, n) -> x.worked(what));
        }
    }
}
