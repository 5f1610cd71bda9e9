/**
 * Two objects made by the same calls: a call that the one refuses must leave it as the other is, which did not get it.
 * All that can be asked is compared. An object answers 512 calls, so it is asked in parts, each with new twins.
 */
final class Twins {
    private static final int PARTS = 26;

    /** What is done with both ahead; it answers a number that the refused call may use. */
    interface Start {
        int on(PlanRules x);
    }

    interface Call {
        int on(PlanRules x, int n);
    }

    private Twins() {
    }

    /** The call answers what is due, and changes nothing. */
    static void refuse(String what, Start start, int due, Call call) {
        for (int part = 0; part < PARTS; part++) {
            PlanRules one = new PlanRules();
            PlanRules other = new PlanRules();
            int n = start.on(one);
            start.on(other);
            Check.due(what, call.on(one, n), due);
            Check.due("after " + what + ", part " + part, answers(one, part), answers(other, part));
        }
    }

    private static String answers(PlanRules x, int part) {
        StringBuilder text = new StringBuilder();
        if (part == 0) {
            latest(x, text);
        } else if (part == 1) {
            formulas(x, text);
        } else if (part < 6) {
            told(x, 15 * (part - 2), text);
        } else if (part < 10) {
            fits(x, 15 * (part - 6), text);
        } else if (part < 25) {
            runs(x, 4 * (part - 10), text);
        } else {
            sources(x, text);
        }
        return text.toString();
    }

    private static void latest(PlanRules x, StringBuilder text) {
        text.append(Plans.worked(x));
        for (int i = 0; i < 40; i++) {
            for (int m = 0; m < 6; m++) {
                text.append(' ').append(x.member(i, m));
            }
        }
    }

    private static void formulas(PlanRules x, StringBuilder text) {
        text.append(Plans.counts(x));
        for (int f = 0; f < 40; f++) {
            text.append(' ').append(x.formulaOf(f, 0)).append(' ').append(x.formulaOf(f, 1));
        }
    }

    private static void told(PlanRules x, int from, StringBuilder text) {
        for (int n = from; n < from + 15; n++) {
            text.append(Plans.told(x, n)).append("; ");
        }
    }

    private static void fits(PlanRules x, int from, StringBuilder text) {
        for (int n = from; n < from + 15; n++) {
            for (int rule = 0; rule < 18; rule++) {
                text.append(x.fits(n, rule)).append(' ');
            }
        }
    }

    private static void runs(PlanRules x, int from, StringBuilder text) {
        for (int n = from; n < from + 4; n++) {
            text.append(Plans.rows(x, n)).append(" worked ").append(Plans.worked(x)).append("; ");
        }
    }

    private static void sources(PlanRules x, StringBuilder text) {
        for (int source = 0; source < 4; source++) {
            text.append(x.clear(source)).append(' ').append(x.row(source, 1, 1, 1)).append(' ');
        }
        text.append(x.formula(1, 0, 0)).append(' ').append(x.node(0, 0, 0, 0, 0)).append(' ').append(Plans.counts(x));
    }

    /** FORMULAS of ordinary(): MEMBERS 0 to 5 are 0 to 5. */
    static final int ONE = 6, RISKY = 7, PAIR = 8;

    /** NODES of ordinary(): SOURCES 0 to 3 are 0 to 3; UPPER is one that RULE 14 fits, and was RUN last. */
    static final int UPPER = 5, FAILING = 6;

    /**
     * SOURCE 0 is full, SOURCE 3 without ROWS; all ITEMS are told, and shown by NODES; 25 FORMULAS, 15 NODES; the
     * latest run gave ROWS. It answers how many NODES there are.
     */
    static int ordinary(PlanRules x) {
        for (int i = 0; i < 6; i++) {
            x.row(0, i % 3, i - 1, i % 2);
        }
        x.row(1, 1, 20, 30);
        x.row(1, 2, 21, 31);
        x.row(2, 5, 6, 7);
        for (int m = 0; m < 6; m++) {
            Plans.member(x, m);
        }
        Plans.number(x, 1);
        x.formula(Plans.QUOTIENT, 0, 1);
        x.formula(Plans.SUM, 0, 1);
        for (int source = 0; source < 4; source++) {
            Plans.source(x, source);
        }
        Plans.once(x, 0);
        Plans.once(x, 4);
        Plans.filter(x, 0, RISKY);
        int shown = 2;
        for (int i = 0; i < 8; i++) {
            x.table(i, 100 + i);
            shown = Plans.set(x, i == 6 ? 2 : shown, i % 6, x.formula(Plans.ITEM, Plans.number(x, i), 0));
        }
        x.run(UPPER);
        return x.count(1);
    }

    /** As ordinary(), but the latest run FAILED. */
    static int failed(PlanRules x) {
        ordinary(x);
        x.run(FAILING);
        return x.count(1);
    }

    /** As ordinary(), with all 40 FORMULAS. */
    static int fullOfFormulas(PlanRules x) {
        ordinary(x);
        while (x.count(0) < 40) {
            Plans.number(x, x.count(0));
        }
        return x.count(1);
    }

    /** Fills up with NODES, till there is room for so many. */
    static void fillNodes(PlanRules x, int room) {
        for (int n = x.count(1); n < 60 - room; n++) {
            Plans.first(x, 1, n % 3);
        }
    }
}
