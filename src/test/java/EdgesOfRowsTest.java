/** The edges of ROWS, SOURCES, THE TABLE and of promises 1 to 4, 10, 15: one method for each sentence. */
public final class EdgesOfRowsTest {
    private static final int BAD = Plans.BAD, FULL = Plans.FULL, MIN = Plans.MIN, MAX = Plans.MAX;

    public static void main(String[] args) {
        membersAreNoughtToFive();
        membersAreInts();
        sourcesAreNoughtToThree();
        sixRowsAtMost();
        toldByThreeMembers();
        itemsAreNoughtToSeven();
        itemsAreInts();
        itemsAreNoughtAtFirst();
        newObject();
        rowTellsHowMany();
        rowIsBad();
        rowIsFull();
        clearTellsHowManyItHad();
        clearIsBad();
        tableAnswersOne();
        tableIsBad();
        memberOfTheLatestRun();
        memberOfNoRun();
        memberAfterAFailure();
        memberThereIsNoneSuch();
        countOfEach();
        countIsBad();
        theLast512();
        Check.end();
    }

    private static void membersAreNoughtToFive() {
        Check.about("ROWS have MEMBERS 0 .. 5");
        PlanRules x = new PlanRules();
        int source = Plans.source(x, 0);
        int f = Plans.number(x, 1);
        for (int m = 0; m < 6; m++) {
            Check.due("MEMBER " + m, Plans.member(x, m), m + 1);
            Check.holds("SET of " + m, Plans.set(x, source, m, f) > 0);
            Check.holds("JOIN by " + m, Plans.join(x, source, source, m, 0) > 0);
            Check.holds("FOLD by " + m, Plans.fold(x, source, m, (m + 1) % 6) > 0);
        }
        for (int m : new int[] {-1, 6}) {
            Check.due("MEMBER " + m, Plans.member(x, m), BAD);
            Check.due("SET of " + m, Plans.set(x, source, m, f), BAD);
            Check.due("JOIN by " + m, Plans.join(x, source, source, m, 0), BAD);
            Check.due("FOLD by " + m, Plans.fold(x, source, m, 1), BAD);
            Check.due("FOLD of " + m, Plans.fold(x, source, 1, m), BAD);
        }
    }

    private static void membersAreInts() {
        Check.about("MEMBERS 0 .. 5, ints");
        PlanRules x = new PlanRules();
        x.row(0, MIN, MAX, -1);
        x.row(0, MAX, 0, MIN);
        Check.due("the ROWS", Plans.rows(x, Plans.source(x, 0)),
            "2 / -2147483648 2147483647 -1 0 0 0 / 2147483647 0 -2147483648 0 0 0");
    }

    private static void sourcesAreNoughtToThree() {
        Check.about("SOURCES 0 .. 3");
        PlanRules x = new PlanRules();
        for (int source = 0; source < 4; source++) {
            Check.due("row of " + source, x.row(source, source, 0, 0), 1);
            Check.due("a NODE on " + source, Plans.source(x, source), source);
            Check.due("its ROWS", Plans.rows(x, source), "1 / " + source + " 0 0 0 0 0");
        }
        for (int source : new int[] {-1, 4}) {
            Check.due("row of " + source, x.row(source, 0, 0, 0), BAD);
            Check.due("clear of " + source, x.clear(source), BAD);
            Check.due("a NODE on " + source, Plans.source(x, source), BAD);
        }
    }

    private static void sixRowsAtMost() {
        Check.about("SOURCES 0 .. 3 have 6 ROWS at most");
        for (int source = 0; source < 4; source++) {
            PlanRules x = new PlanRules();
            for (int i = 1; i <= 6; i++) {
                Check.due("row " + i, x.row(source, i, 0, 0), i);
            }
            Check.due("row 7", x.row(source, 7, 0, 0), FULL);
            Check.due("row 7 once more", x.row(source, 7, 0, 0), FULL);
            Check.due("count(3)", x.count(3), 6);
            Check.due("the sixth is there, the seventh not", Plans.rows(x, Plans.source(x, source)),
                "6 / 1 0 0 0 0 0 / 2 0 0 0 0 0 / 3 0 0 0 0 0 / 4 0 0 0 0 0 / 5 0 0 0 0 0 / 6 0 0 0 0 0");
            Check.due("the next SOURCE has room of its own", x.row((source + 1) % 4, 0, 0, 0), 1);
            Check.due("the one before, too", x.row((source + 3) % 4, 0, 0, 0), 1);
        }
    }

    private static void toldByThreeMembers() {
        Check.about("each told by MEMBERS 0 to 2 (3 to 5 are 0)");
        PlanRules x = new PlanRules();
        x.row(0, 1, 2, 3);
        int source = Plans.source(x, 0);
        int seven = Plans.number(x, 7);
        int set = source;
        for (int m = 3; m < 6; m++) {
            set = Plans.set(x, set, m, seven);
        }
        Check.due("set elsewhere", Plans.rows(x, set), "1 / 1 2 3 7 7 7");
        Check.due("0 in the SOURCE", Plans.rows(x, source), "1 / 1 2 3 0 0 0");
        x.row(0, 4, 5, 6);
        Check.due("0 where another run had a 7", Plans.rows(x, source), "2 / 1 2 3 0 0 0 / 4 5 6 0 0 0");
    }

    private static void itemsAreNoughtToSeven() {
        Check.about("THE TABLE has ITEMS 0 .. 7");
        for (int i = 0; i < 8; i++) {
            PlanRules x = new PlanRules();
            Check.due("table(" + i + ")", x.table(i, 50 + i), 1);
            for (int other = 0; other < 8; other++) {
                Check.due("ITEM " + other, item(x, other), other == i ? 50 + i : 0);
            }
        }
        PlanRules x = new PlanRules();
        for (int i : new int[] {-1, 8, MIN, MAX}) {
            Check.due("table(" + i + ")", x.table(i, 1), BAD);
        }
    }

    private static void itemsAreInts() {
        Check.about("ITEMS 0 .. 7, ints");
        for (int v : new int[] {MIN, -1, 0, 1, MAX}) {
            PlanRules x = new PlanRules();
            x.table(0, 9);
            x.table(7, 9);
            Check.due("table(0)", x.table(0, v), 1);
            Check.due("table(7)", x.table(7, v), 1);
            Check.due("ITEM 0", item(x, 0), v);
            Check.due("ITEM 7", item(x, 7), v);
        }
    }

    private static void itemsAreNoughtAtFirst() {
        Check.about("ITEMS 0 .. 7, ints (0 at first)");
        PlanRules x = new PlanRules();
        for (int i = 0; i < 8; i++) {
            Check.due("ITEM " + i, item(x, i), 0);
        }
    }

    private static int item(PlanRules x, int i) {
        x.clear(0);
        x.row(0, i, 0, 0);
        int n = Plans.set(x, Plans.source(x, 0), 5, x.formula(Plans.ITEM, Plans.member(x, 0), 0));
        Check.due("a run for ITEM " + i, x.run(n), 1);
        return x.member(0, 5);
    }

    private static void newObject() {
        Check.about("Promise 1: SOURCES without ROWS; no FORMULAS, NODES");
        PlanRules x = new PlanRules();
        Check.due("count()", Plans.counts(x), "0 0 0 0");
        for (int source = 0; source < 4; source++) {
            Check.due("clear(" + source + ")", x.clear(source), 0);
            PlanRules y = new PlanRules();
            Check.due("run of an empty SOURCE", y.run(Plans.source(y, source)), 0);
        }
        Check.due("there is no FORMULA 0", x.formulaOf(0, 0), BAD);
        Check.due("there is no FORMULA 0 as a part", x.formula(Plans.NOT, 0, 0), BAD);
        Check.due("there is no NODE 0", x.told(0, 0), BAD);
        Check.due("there is no NODE 0 to stand on", Plans.once(x, 0), BAD);
        Check.due("there is no NODE 0 to run", x.run(0), BAD);
        Check.due("there is no NODE 0 to fit", x.fits(0, 0), BAD);
        Check.due("there is no NODE 0 to rewrite", x.rewrite(0, 0), BAD);
        Check.due("there is no NODE 0 to sweep", x.sweep(0, 0), BAD);
        Check.due("the first FORMULA", Plans.member(x, 0), 0);
        Check.due("the first NODE", Plans.source(x, 0), 0);
    }

    private static void rowTellsHowMany() {
        Check.about("Promise 2: A ROW more of a SOURCE: how many");
        PlanRules x = new PlanRules();
        Check.due("the first of SOURCE 0", x.row(0, 0, 0, 0), 1);
        Check.due("the first of SOURCE 3", x.row(3, 0, 0, 0), 1);
        Check.due("the second of SOURCE 3, a like one", x.row(3, 0, 0, 0), 2);
        Check.due("the second of SOURCE 0", x.row(0, 0, 0, 0), 2);
        x.clear(3);
        Check.due("the first of SOURCE 3 after clear", x.row(3, 0, 0, 0), 1);
    }

    private static void rowIsBad() {
        Check.about("Promise 2: BAD");
        for (int source : new int[] {-1, 4, MIN, MAX}) {
            Twins.refuse("row(" + source + ")", Twins::ordinary, BAD, (x, n) -> x.row(source, 1, 2, 3));
        }
    }

    private static void rowIsFull() {
        Check.about("Promise 2: FULL");
        Twins.refuse("row of a full SOURCE", Twins::ordinary, FULL, (x, n) -> x.row(0, 8, 8, 8));
        PlanRules x = new PlanRules();
        for (int i = 0; i < 24; i++) {
            x.row(i % 4, i, i, i);
        }
        for (int source = 0; source < 4; source++) {
            Check.due("all are full", x.row(source, 0, 0, 0), FULL);
        }
        Check.due("BAD is not FULL", x.row(4, 0, 0, 0), BAD);
        Check.due("count(3)", x.count(3), 24);
        x.clear(2);
        Check.due("room after clear", x.row(2, 0, 0, 0), 1);
        Check.due("not beside it", x.row(1, 0, 0, 0), FULL);
    }

    private static void clearTellsHowManyItHad() {
        Check.about("Promise 3: A SOURCE has no ROWS: how many it had");
        PlanRules x = new PlanRules();
        int source = Plans.source(x, 1);
        Check.due("an empty one", x.clear(1), 0);
        x.row(1, 1, 1, 1);
        Check.due("one of one ROW", x.clear(1), 1);
        Check.due("it has none", x.run(source), 0);
        for (int i = 0; i < 6; i++) {
            x.row(1, 2, 2, 2);
            x.row(2, 3, 3, 3);
        }
        Check.due("a full one", x.clear(1), 6);
        Check.due("it has none", x.run(source), 0);
        Check.due("once more", x.clear(1), 0);
        Check.due("the others have theirs", x.count(3), 6);
        Check.due("a SOURCE keeps its NODE", x.told(source, 1), 1);
    }

    private static void clearIsBad() {
        Check.about("Promise 3: BAD");
        for (int source : new int[] {-1, 4, MIN, MAX}) {
            Twins.refuse("clear(" + source + ")", Twins::ordinary, BAD, (x, n) -> x.clear(source));
        }
    }

    private static void tableAnswersOne() {
        Check.about("Promise 4: An ITEM of THE TABLE becomes v: 1");
        PlanRules x = new PlanRules();
        Check.due("table(0, 0)", x.table(0, 0), 1);
        Check.due("table(7, -1)", x.table(7, -1), 1);
        Check.due("ITEM 7", item(x, 7), -1);
        Check.due("table(7, MIN)", x.table(7, MIN), 1);
        Check.due("ITEM 7 anew", item(x, 7), MIN);
        Check.due("ITEM 6 stays", item(x, 6), 0);
    }

    private static void tableIsBad() {
        Check.about("Promise 4: BAD");
        for (int i : new int[] {-1, 8, MIN, MAX}) {
            Twins.refuse("table(" + i + ")", Twins::ordinary, BAD, (x, n) -> x.table(i, 77));
        }
    }

    private static void memberOfTheLatestRun() {
        Check.about("Promise 10: MEMBER m of ROW i that the latest run() gave");
        PlanRules x = new PlanRules();
        x.row(0, 1, 2, 3);
        x.row(0, 4, 5, 6);
        x.row(1, 7, 8, 9);
        int two = Plans.source(x, 0);
        int one = Plans.source(x, 1);
        x.run(two);
        Check.due("the last MEMBER told of the last ROW", x.member(1, 2), 6);
        x.run(one);
        Check.due("the later run", x.member(0, 0), 7);
        Check.due("no ROW of the earlier one", x.member(1, 0), 0);
        x.clear(1);
        x.row(1, 0, 0, 0);
        Check.due("not what the SOURCE has now", x.member(0, 0), 7);
        x.run(-1);
        Check.due("a BAD run changes nothing", x.member(0, 1), 8);
        x.clear(1);
        x.run(one);
        Check.due("a run that gives none", x.member(0, 0), 0);
    }

    private static void memberOfNoRun() {
        Check.about("Promise 10: there was no run() yet");
        PlanRules x = new PlanRules();
        x.row(0, 1, 2, 3);
        Plans.source(x, 0);
        Check.due("member(0, 0)", x.member(0, 0), 0);
        x.run(1);
        Check.due("member(0, 0) after a BAD run", x.member(0, 0), 0);
    }

    private static void memberAfterAFailure() {
        Check.about("Promise 10: (none, if it FAILED)");
        PlanRules x = new PlanRules();
        x.row(0, 1, 1, 3);
        x.row(0, 4, 0, 6);
        int source = Plans.source(x, 0);
        int quotient = x.formula(Plans.QUOTIENT, Plans.member(x, 0), Plans.member(x, 1));
        int fails = Plans.set(x, source, 3, quotient);
        x.run(source);
        Check.due("a run that does not FAIL", x.member(1, 0), 4);
        Check.due("a run that FAILS at its second ROW", x.run(fails), -11);
        for (int i = 0; i < 3; i++) {
            for (int m = 0; m < 6; m++) {
                Check.due("member(" + i + ", " + m + ")", x.member(i, m), 0);
            }
        }
    }

    private static void memberThereIsNoneSuch() {
        Check.about("Promise 10: 0: there is none such");
        PlanRules x = new PlanRules();
        x.row(0, 1, 2, 3);
        x.row(0, 4, 5, 6);
        x.run(Plans.set(x, Plans.source(x, 0), 5, Plans.number(x, 9)));
        Check.due("the last MEMBER of the first ROW", x.member(0, 5), 9);
        Check.due("the last MEMBER of the last ROW", x.member(1, 5), 9);
        for (int i : new int[] {-1, 2, 100, MIN, MAX}) {
            for (int m = -1; m <= 6; m++) {
                Check.due("member(" + i + ", " + m + ")", x.member(i, m), 0);
            }
        }
        for (int m : new int[] {-1, 6, MIN, MAX}) {
            Check.due("member(0, " + m + ")", x.member(0, m), 0);
            Check.due("member(1, " + m + ")", x.member(1, m), 0);
        }
        Twins.refuse("member(-1, 0)", Twins::ordinary, 0, (y, n) -> y.member(-1, 0));
        Twins.refuse("member(0, 6)", Twins::ordinary, 0, (y, n) -> y.member(0, 6));
    }

    private static void countOfEach() {
        Check.about("Promise 15: 0 FORMULAS, 1 NODES, 2 how often a NODE was rewritten (ever), 3 ROWS of all SOURCES");
        PlanRules x = new PlanRules();
        Twins.ordinary(x);
        Check.due("count()", Plans.counts(x), "25 15 0 9");
        x.rewrite(Twins.UPPER, 14);
        Check.due("after rewrite", Plans.counts(x), "25 15 1 9");
        int top = Plans.once(x, Plans.once(x, Twins.UPPER));
        Check.due("sweep", x.sweep(top, 100), 2);
        Check.due("after sweep", Plans.counts(x), "25 17 3 9");
        x.rewrite(top, 14);
        x.rewrite(top, 18);
        x.sweep(top, 0);
        Check.due("what is refused is not counted", x.count(2), 3);
        x.clear(0);
        Check.due("after clear", x.count(3), 3);
    }

    private static void countIsBad() {
        Check.about("Promise 15: BAD");
        for (int what : new int[] {-1, 4, MIN, MAX}) {
            Twins.refuse("count(" + what + ")", Twins::ordinary, BAD, (x, n) -> x.count(what));
        }
    }

    private static void theLast512() {
        Check.about("An object is used for at most 512 calls after it has been made");
        PlanRules x = new PlanRules();
        int source = Plans.source(x, 0);
        for (int call = 2; call < 511; call++) {
            Check.due("call " + call, call % 7 == 0 ? x.clear(0) : x.row(0, call, 0, 0), call % 7 == 0 ? (call == 7 ? 5 : 6)
                : call < 7 ? call - 1 : call % 7);
        }
        Check.due("call 511", x.run(source), 6);
        Check.due("call 512", x.member(5, 0), 510);
    }
}
