/** The edges of FORMULAS and of promises 5 and 6: one method for each sentence. */
public final class EdgesOfFormulasTest {
    private static final int BAD = Plans.BAD, FULL = Plans.FULL, MIN = Plans.MIN, MAX = Plans.MAX;
    private static final int[] KINDS_OF_TWO = {2, 3, 4, 5, 7, 8, 9, 10};

    public static void main(String[] args) {
        fortyAtMost();
        partsAreToldBefore();
        memberOfTheRow();
        anyNumber();
        sumWraps();
        differenceWraps();
        productWraps();
        quotientIsCut();
        quotientByZero();
        itemOutside();
        below();
        same();
        both();
        either();
        not();
        firstAheadOfSecond();
        readsMembers();
        mayFailByWhatIsInIt();
        sizeOfEachKind();
        sizeThirtyAtMost();
        secondIsNotLookedAt();
        kindIsBad();
        memberIsBad();
        partIsBad();
        fullByForty();
        fullBySize();
        formulaOfIsBad();
        Check.end();
    }

    /** The value of f for a ROW a, b, 0; or, where it FAILS, what the run answers. */
    private static int value(PlanRules x, int f, int a, int b) {
        x.clear(0);
        x.row(0, a, b, 0);
        int answer = x.run(Plans.set(x, Plans.source(x, 0), 5, f));
        return answer == 1 ? x.member(0, 5) : answer;
    }

    /** The value of a FORMULA of this kind on MEMBERS 0 and 1. */
    private static int value(int kind, int a, int b) {
        PlanRules x = new PlanRules();
        Plans.member(x, 0);
        Plans.member(x, 1);
        return value(x, x.formula(kind, 0, 1), a, b);
    }

    private static void due(int kind, int a, int b, int want) {
        Check.due("kind " + kind + " of " + a + ", " + b, value(kind, a, b), want);
    }

    private static void fortyAtMost() {
        Check.about("FORMULAS 0, 1, .. (40 at most)");
        for (int kind = 0; kind < 12; kind++) {
            PlanRules x = new PlanRules();
            for (int f = 0; f < 39; f++) {
                Check.due("FORMULA " + f, Plans.number(x, f), f);
            }
            Check.due("FORMULA 39, of kind " + kind, x.formula(kind, 0, 0), 39);
            Check.due("FORMULA 40, of kind " + kind, x.formula(kind, 0, 0), FULL);
            Check.due("count(0)", x.count(0), 40);
            Check.holds("the last one can be asked for", x.formulaOf(39, 0) >= 0);
            Check.due("there is none behind it", x.formulaOf(40, 0), BAD);
        }
        PlanRules x = new PlanRules();
        for (int f = 0; f < 39; f++) {
            Plans.number(x, f);
        }
        Check.due("the last one", x.formula(Plans.SUM, 38, 37), 39);
        Check.due("can be worked", value(x, 39, 0, 0), 75);
    }

    private static void partsAreToldBefore() {
        Check.about("a, b are FORMULAS (told before), where nothing else is said");
        PlanRules x = new PlanRules();
        for (int kind = 2; kind < 12; kind++) {
            Check.due("a part where there is none", x.formula(kind, 0, 0), BAD);
        }
        for (int kind = 2; kind < 12; kind++) {
            int next = Plans.number(x, 0) + 1;
            Check.due("itself as a", x.formula(kind, next, 0), BAD);
            if (kind != 6 && kind != 11) {
                Check.due("itself as b", x.formula(kind, 0, next), BAD);
                Check.due("one below 0 as b", x.formula(kind, 0, -1), BAD);
            }
            Check.due("one below 0 as a", x.formula(kind, -1, 0), BAD);
            Check.due("the one told last", x.formula(kind, next - 1, next - 1), next);
        }
    }

    private static void memberOfTheRow() {
        Check.about("0 MEMBER a");
        for (int m = 0; m < 6; m++) {
            PlanRules x = new PlanRules();
            x.row(0, 10, 11, 12);
            int n = Plans.source(x, 0);
            for (int high = 3; high < 6; high++) {
                n = Plans.set(x, n, high, Plans.number(x, 10 + high));
            }
            n = Plans.set(x, n, 0, Plans.member(x, m));
            x.run(n);
            Check.due("MEMBER " + m, x.member(0, 0), 10 + m);
        }
    }

    private static void anyNumber() {
        Check.about("1 the number a");
        for (int v : new int[] {MIN, -1, 0, 1, 6, 40, 41, MAX}) {
            PlanRules x = new PlanRules();
            Check.due("number " + v, value(x, Plans.number(x, v), 5, 5), v);
        }
    }

    private static void sumWraps() {
        Check.about("2 a + b (all that is reckoned wraps)");
        due(Plans.SUM, MAX, 1, MIN);
        due(Plans.SUM, MIN, -1, MAX);
        due(Plans.SUM, MIN, MIN, 0);
        due(Plans.SUM, MAX, MAX, -2);
        due(Plans.SUM, MAX, 0, MAX);
    }

    private static void differenceWraps() {
        Check.about("3 a - b (all that is reckoned wraps)");
        due(Plans.DIFFERENCE, MIN, 1, MAX);
        due(Plans.DIFFERENCE, MAX, -1, MIN);
        due(Plans.DIFFERENCE, 0, MIN, MIN);
        due(Plans.DIFFERENCE, MIN, MIN, 0);
        due(Plans.DIFFERENCE, 3, 5, -2);
    }

    private static void productWraps() {
        Check.about("4 a times b (all that is reckoned wraps)");
        due(Plans.PRODUCT, 65536, 65536, 0);
        due(Plans.PRODUCT, 65536, 32768, MIN);
        due(Plans.PRODUCT, MIN, -1, MIN);
        due(Plans.PRODUCT, MAX, MAX, 1);
        due(Plans.PRODUCT, MAX, 2, -2);
        due(Plans.PRODUCT, 46341, 46341, -2147479015);
    }

    private static void quotientIsCut() {
        Check.about("5 a / b, cut");
        due(Plans.QUOTIENT, 7, 2, 3);
        due(Plans.QUOTIENT, -7, 2, -3);
        due(Plans.QUOTIENT, 7, -2, -3);
        due(Plans.QUOTIENT, -7, -2, 3);
        due(Plans.QUOTIENT, -1, 2, 0);
        due(Plans.QUOTIENT, 1, MIN, 0);
        due(Plans.QUOTIENT, MIN, MIN, 1);
        due(Plans.QUOTIENT, MIN, 1, MIN);
        due(Plans.QUOTIENT, MIN, 2, -1073741824);
        due(Plans.QUOTIENT, MIN, -1, MIN);
        due(Plans.QUOTIENT, 0, -1, 0);
    }

    private static void quotientByZero() {
        Check.about("5 a / b: FAILURE 1 ZERO");
        for (int a : new int[] {MIN, -1, 0, 1, MAX}) {
            due(Plans.QUOTIENT, a, 0, -11);
            due(Plans.QUOTIENT, a, 1, a);
        }
        PlanRules x = new PlanRules();
        int wrapped = x.formula(Plans.SUM, Plans.member(x, 0), Plans.member(x, 1));
        Check.due("a divisor that wraps to 0", value(x, x.formula(Plans.QUOTIENT, 0, wrapped), MIN, MIN), -11);
        Check.due("worked(0)", x.worked(0), 1);
    }

    private static void itemOutside() {
        Check.about("6 ITEM a of THE TABLE: FAILURE 2 INDEX");
        PlanRules x = new PlanRules();
        for (int i = 0; i < 8; i++) {
            x.table(i, 70 + i);
        }
        int item = x.formula(Plans.ITEM, Plans.member(x, 0), 0);
        for (int i = 0; i < 8; i++) {
            Check.due("ITEM " + i, value(x, item, i, 0), 70 + i);
            Check.due("worked(0)", x.worked(0), 0);
        }
        for (int i : new int[] {-1, 8, MIN, MAX}) {
            Check.due("ITEM " + i, value(x, item, i, 0), -12);
            Check.due("worked(0)", x.worked(0), 2);
        }
        int sum = x.formula(Plans.SUM, 0, 0);
        int wrapped = x.formula(Plans.ITEM, sum, 0);
        Check.due("an index that wraps to 0", value(x, wrapped, MIN, 0), 70);
        Check.due("an index that wraps below 0", value(x, wrapped, MAX, 0), -12);
    }

    private static void below() {
        Check.about("7 whether a is below b (1, 0)");
        due(Plans.BELOW, 1, 2, 1);
        due(Plans.BELOW, 2, 2, 0);
        due(Plans.BELOW, 3, 2, 0);
        due(Plans.BELOW, MIN, MAX, 1);
        due(Plans.BELOW, MAX, MIN, 0);
        due(Plans.BELOW, -1, 0, 1);
        due(Plans.BELOW, MIN, MIN, 0);
    }

    private static void same() {
        Check.about("8 whether they are the same");
        due(Plans.SAME, 2, 2, 1);
        due(Plans.SAME, 2, 3, 0);
        due(Plans.SAME, MIN, MIN, 1);
        due(Plans.SAME, MIN, MAX, 0);
        due(Plans.SAME, 1000, 1000, 1);
        due(Plans.SAME, MIN, 0, 0);
    }

    private static void both() {
        Check.about("9 BOTH: 0, if a is 0 (b is not worked then), else whether b is not 0");
        due(Plans.BOTH, 0, 0, 0);
        due(Plans.BOTH, 0, 5, 0);
        due(Plans.BOTH, 5, 0, 0);
        due(Plans.BOTH, 5, 7, 1);
        due(Plans.BOTH, -1, MIN, 1);
        PlanRules x = new PlanRules();
        int quotient = x.formula(Plans.QUOTIENT, Plans.member(x, 0), Plans.member(x, 1));
        int both = x.formula(Plans.BOTH, 0, quotient);
        Check.due("a b that would FAIL is not worked", value(x, both, 0, 0), 0);
        Check.due("worked(1)", x.worked(1), 2);
        Check.due("it is worked where a is not 0", value(x, both, 1, 0), -11);
        Check.due("worked(1)", x.worked(1), 5);
        int early = x.formula(Plans.BOTH, quotient, 1);
        Check.due("an a that FAILS", value(x, early, 0, 0), -11);
    }

    private static void either() {
        Check.about("10 EITHER: 1, if a is not 0 (likewise), else whether b is not 0");
        due(Plans.EITHER, 0, 0, 0);
        due(Plans.EITHER, 0, 5, 1);
        due(Plans.EITHER, 5, 0, 1);
        due(Plans.EITHER, 5, 7, 1);
        due(Plans.EITHER, MIN, 0, 1);
        due(Plans.EITHER, 0, -1, 1);
        PlanRules x = new PlanRules();
        int quotient = x.formula(Plans.QUOTIENT, Plans.member(x, 0), Plans.member(x, 1));
        int either = x.formula(Plans.EITHER, 0, quotient);
        Check.due("a b that would FAIL is not worked", value(x, either, 1, 0), 1);
        Check.due("worked(1)", x.worked(1), 2);
        Check.due("it is worked where a is 0", value(x, either, 0, 0), -11);
        Check.due("worked(1)", x.worked(1), 5);
        int early = x.formula(Plans.EITHER, quotient, 0);
        Check.due("an a that FAILS", value(x, early, 1, 0), -11);
    }

    private static void not() {
        Check.about("11 whether a is 0");
        due(Plans.NOT, 0, 9, 1);
        due(Plans.NOT, 1, 9, 0);
        due(Plans.NOT, -1, 0, 0);
        due(Plans.NOT, MIN, 0, 0);
    }

    private static void firstAheadOfSecond() {
        Check.about("a is worked ahead of b");
        PlanRules x = new PlanRules();
        int quotient = x.formula(Plans.QUOTIENT, Plans.member(x, 0), Plans.member(x, 1));
        int item = x.formula(Plans.ITEM, 0, 0);
        for (int kind : KINDS_OF_TWO) {
            int zeroFirst = x.formula(kind, quotient, item);
            int indexFirst = x.formula(kind, item, quotient);
            Check.due("kind " + kind + ": both FAIL, ZERO first", value(x, zeroFirst, 8, 0), -11);
            Check.due("worked(1): not b", x.worked(1), 4);
            Check.due("kind " + kind + ": both FAIL, INDEX first", value(x, indexFirst, 8, 0), -12);
            Check.due("worked(1): not b", x.worked(1), 3);
        }
        PlanRules y = new PlanRules();
        int failing = y.formula(Plans.QUOTIENT, Plans.member(y, 0), Plans.member(y, 1));
        Check.due("a FAILS by ZERO ahead of a division by 0", value(y, y.formula(Plans.QUOTIENT, failing, 1), 8, 0), -11);
        Check.due("worked(1)", y.worked(1), 4);
    }

    private static void readsMembers() {
        Check.about("It READS the MEMBERS that are in it, worked or not");
        for (int set = 0; set < 64; set++) {
            PlanRules x = new PlanRules();
            Check.due("READS", x.formulaOf(Plans.reading(x, set), 0), set);
        }
        PlanRules x = new PlanRules();
        for (int m = 0; m < 6; m++) {
            Plans.member(x, m);
        }
        for (int kind = 2; kind < 12; kind++) {
            int f = x.formula(kind, 0, 5);
            Check.due("kind " + kind, x.formulaOf(f, 0), kind == 6 || kind == 11 ? 1 : 33);
        }
        int nought = Plans.number(x, 0);
        int one = Plans.number(x, 1);
        Check.due("BOTH 0, MEMBER 5", x.formulaOf(x.formula(Plans.BOTH, nought, 5), 0), 32);
        Check.due("EITHER 1, MEMBER 4", x.formulaOf(x.formula(Plans.EITHER, one, 4), 0), 16);
        Check.due("MEMBER 3 - MEMBER 3", x.formulaOf(x.formula(Plans.DIFFERENCE, 3, 3), 0), 8);
        Check.due("a number is no MEMBER", x.formulaOf(Plans.number(x, 3), 0), 0);
    }

    private static void mayFailByWhatIsInIt() {
        Check.about("It MAY FAIL by the 5, 6, that are in it, worked or not");
        PlanRules x = new PlanRules();
        int member = Plans.member(x, 0);
        int nought = Plans.number(x, 0);
        int one = Plans.number(x, 1);
        Check.due("a MEMBER", x.formulaOf(member, 1), 0);
        Check.due("a number", x.formulaOf(one, 1), 0);
        for (int kind = 2; kind < 12; kind++) {
            Check.due("kind " + kind, x.formulaOf(x.formula(kind, member, one), 1), kind == 5 || kind == 6 ? 1 : 0);
        }
        int byOne = x.formula(Plans.QUOTIENT, member, one);
        int itemNought = x.formula(Plans.ITEM, nought, 0);
        Check.due("a / 1, that never FAILS", x.formulaOf(byOne, 1), 1);
        Check.due("ITEM 0, that never FAILS", x.formulaOf(itemNought, 1), 1);
        for (int kind = 2; kind < 12; kind++) {
            Check.due("kind " + kind + " in a", x.formulaOf(x.formula(kind, byOne, member), 1), 1);
        }
        for (int kind : KINDS_OF_TWO) {
            Check.due("kind " + kind + " in b", x.formulaOf(x.formula(kind, member, itemNought), 1), 1);
        }
        Check.due("BOTH 0, a / 1, never worked", x.formulaOf(x.formula(Plans.BOTH, nought, byOne), 1), 1);
        Check.due("EITHER 1, ITEM 0, never worked", x.formulaOf(x.formula(Plans.EITHER, one, itemNought), 1), 1);
    }

    /** A chain of kind 11 on a MEMBER: the number of its last one; SIZES 1 to size are in it. */
    private static int chain(PlanRules x, int size) {
        int f = Plans.member(x, 0);
        for (int i = 1; i < size; i++) {
            f = x.formula(Plans.NOT, f, 0);
        }
        return f;
    }

    private static void sizeOfEachKind() {
        Check.about("Its SIZE is 1, and that of a, of b, as far as these are FORMULAS");
        for (int kind = 2; kind < 12; kind++) {
            PlanRules x = new PlanRules();
            int last = chain(x, 30);
            boolean one = kind == 6 || kind == 11;
            Check.due("kind " + kind + ": 1 + 30", x.formula(kind, last, 0), FULL);
            Check.due("kind " + kind + ": 1 + 29 (+ 1)", x.formula(kind, last - 1, 0), one ? 30 : FULL);
            int next = x.count(0);
            Check.due("kind " + kind + ": 1 + 28 (+ 1)", x.formula(kind, last - 2, 0), next);
            if (!one) {
                Check.due("kind " + kind + ": 1 + 1 + 29", x.formula(kind, 0, last - 1), FULL);
                Check.due("kind " + kind + ": 1 + 1 + 28", x.formula(kind, 0, last - 2), next + 1);
                Check.due("kind " + kind + ": 1 + 15 + 15", x.formula(kind, 14, 14), FULL);
                Check.due("kind " + kind + ": 1 + 14 + 15", x.formula(kind, 13, 14), next + 2);
            }
        }
        PlanRules x = new PlanRules();
        chain(x, 30);
        Check.due("MEMBER 5 is no FORMULA 5", x.formula(0, 5, 29), 30);
        Check.due("its SIZE is 1", x.formula(Plans.SUM, 30, 27), 31);
        Check.due("the number 29 is no FORMULA 29", x.formula(1, 29, 29), 32);
        Check.due("its SIZE is 1", x.formula(Plans.SUM, 32, 27), 33);
        Check.due("b is none for ITEM", x.formula(Plans.ITEM, 28, 29), 34);
        Check.due("b is none for kind 11", x.formula(Plans.NOT, 28, 29), 35);
    }

    private static void sizeThirtyAtMost() {
        Check.about("its SIZE: 30 at most");
        PlanRules x = new PlanRules();
        int last = chain(x, 30);
        Check.due("SIZE 30", last, 29);
        Check.due("it is worked", value(x, last, 0, 0), 1);
        Check.due("each FORMULA of it", x.worked(1), 30);
        Check.due("SIZE 31", x.formula(Plans.NOT, last, 0), FULL);
        Check.due("SIZE 31 once more", x.formula(Plans.ITEM, last, 0), FULL);
        Check.due("SIZE 61", x.formula(Plans.SUM, last, last), FULL);
        Check.due("there is room for small ones", Plans.number(x, 0), 30);
        PlanRules y = new PlanRules();
        int f = Plans.member(y, 0);
        for (int size = 3; size < 30; size = 2 * size + 1) {
            f = y.formula(Plans.SUM, f, f);
        }
        Check.due("SIZE 15 of 4 FORMULAS", f, 3);
        Check.due("parts count each time: 31", y.formula(Plans.SUM, f, f), FULL);
        Check.due("eight times", value(y, f, 7, 0), 56);
        Check.due("worked each time", y.worked(1), 15);
    }

    private static void secondIsNotLookedAt() {
        Check.about("Promise 5: (b is not looked at for 0, 1, 6, 11)");
        for (int b : new int[] {MIN, -1, 0, 1, 2, 40, MAX}) {
            PlanRules x = new PlanRules();
            Check.due("MEMBER", x.formula(0, 0, b), 0);
            Check.due("number", x.formula(1, 7, b), 1);
            Check.due("ITEM", x.formula(6, 1, b), 2);
            Check.due("kind 11", x.formula(11, 1, b), 3);
            Check.due("READS of an ITEM", x.formulaOf(2, 0), 0);
            Check.due("READS of kind 11", x.formulaOf(3, 0), 0);
            Check.due("kind 11 may not FAIL", x.formulaOf(3, 1), 0);
            Check.due("the MEMBER", value(x, 0, 4, 9), 4);
            Check.due("the number", value(x, 1, 4, 9), 7);
            Check.due("the ITEM", value(x, 2, 4, 9), 0);
            Check.due("kind 11", value(x, 3, 4, 9), 0);
        }
        PlanRules x = new PlanRules();
        int risky = Plans.risky(x, 63);
        Check.due("b MAY FAIL, kind 11 not", x.formulaOf(x.formula(11, 0, risky), 1), 0);
        Check.due("b READS all, an ITEM not", x.formulaOf(x.formula(6, 0, risky), 0), 1);
    }

    private static void kindIsBad() {
        Check.about("Promise 5: BAD: kind");
        for (int kind : new int[] {-1, 12, MIN, MAX}) {
            Twins.refuse("kind " + kind, Twins::ordinary, BAD, (x, n) -> x.formula(kind, 0, 0));
        }
    }

    private static void memberIsBad() {
        Check.about("Promise 5: BAD: MEMBER");
        for (int m : new int[] {-1, 6, MIN, MAX}) {
            Twins.refuse("MEMBER " + m, Twins::ordinary, BAD, (x, n) -> x.formula(0, m, 0));
        }
    }

    private static void partIsBad() {
        Check.about("Promise 5: BAD: FORMULAS");
        for (int kind = 2; kind < 12; kind++) {
            for (int part : new int[] {-1, 25, 40, MIN, MAX}) {
                int of = kind;
                Twins.refuse("kind " + kind + " on " + part, Twins::ordinary, BAD, (x, n) -> x.formula(of, part, 0));
                if (kind != 6 && kind != 11) {
                    Twins.refuse("kind " + kind + " with " + part, Twins::ordinary, BAD, (x, n) -> x.formula(of, 0, part));
                }
            }
        }
    }

    private static void fullByForty() {
        Check.about("Promise 5: FULL: 40 are there");
        for (int kind = 0; kind < 12; kind++) {
            int of = kind;
            Twins.refuse("kind " + kind, Twins::fullOfFormulas, FULL, (x, n) -> x.formula(of, 0, 0));
        }
        Twins.refuse("a wrong kind", Twins::fullOfFormulas, BAD, (x, n) -> x.formula(12, 0, 0));
        Twins.refuse("a wrong MEMBER", Twins::fullOfFormulas, BAD, (x, n) -> x.formula(0, 6, 0));
        Twins.refuse("a wrong part", Twins::fullOfFormulas, BAD, (x, n) -> x.formula(11, 40, 0));
    }

    private static void fullBySize() {
        Check.about("Promise 5: FULL: its SIZE would be above 30");
        Twins.Start start = x -> chain(x, 30);
        Twins.refuse("1 + 30", start, FULL, (x, n) -> x.formula(11, n, 0));
        Twins.refuse("1 + 30 + 30", start, FULL, (x, n) -> x.formula(2, n, n));
        Twins.refuse("1 + 29 + 1", start, FULL, (x, n) -> x.formula(9, n - 1, 0));
        Twins.refuse("1 + 1 + 29", start, FULL, (x, n) -> x.formula(10, 0, n - 1));
        Twins.refuse("a wrong part beside a great one", start, BAD, (x, n) -> x.formula(2, n, n + 1));
    }

    private static void formulaOfIsBad() {
        Check.about("Promise 6: BAD");
        for (int f : new int[] {-1, 25, 40, MIN, MAX}) {
            for (int what = 0; what < 2; what++) {
                int asked = what;
                Twins.refuse("formulaOf(" + f + ", " + what + ")", Twins::ordinary, BAD, (x, n) -> x.formulaOf(f, asked));
            }
        }
        for (int what : new int[] {-1, 2, MIN, MAX}) {
            Twins.refuse("formulaOf(0, " + what + ")", Twins::ordinary, BAD, (x, n) -> x.formulaOf(0, what));
            Twins.refuse("formulaOf(24, " + what + ")", Twins::ordinary, BAD, (x, n) -> x.formulaOf(24, what));
        }
    }
}
