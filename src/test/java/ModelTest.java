import java.util.ArrayList;
import java.util.Arrays;
import java.util.HashMap;
import java.util.LinkedHashMap;
import java.util.List;
import java.util.Map;
import java.util.Random;
import java.util.Set;
import java.util.TreeSet;

/** Long runs of calls, each answered by PlanRules and by a Model that reckons all anew from what was told. */
public final class ModelTest {
    private static final int RUNS = 3000, CALLS = 512;

    /** The kinds that the RULES tell, the upper one first. */
    private static final String[] PAIRS = {"12", "13", "14", "14", "15", "16", "17", "11", "22", "33", "32", "35", "65",
        "63", "77", "88", "75", "82"};

    /** A call that was not refused, and that others after it may see. */
    private record Change(String call, int[] args) { }

    private static final Set<String> CHANGING = Set.of("row", "clear", "table", "formula", "node", "rewrite", "sweep");

    private PlanRules x = new PlanRules();
    private final List<Change> changes = new ArrayList<>();
    private Change latestRun;
    private final Model model = new Model();
    private final Random random;
    private final int seed;
    private final int wildness;
    private final boolean risky;
    private final StringBuilder story = new StringBuilder();
    private int calls = 0;

    /** How often each RULE rewrote, and how often it had no room, so that the test shows that it reaches all. */
    private static final int[] REWRITTEN = new int[18];
    private static final int[] NO_ROOM = new int[18];
    private static int longestSweep = 0;
    private static int failedRuns = 0;
    private static int goodRuns = 0;

    private ModelTest(int seed) {
        this.seed = seed;
        random = new Random(seed);
        risky = random.nextInt(3) > 0;
        wildness = random.nextInt(3) == 0 ? 8 : 60;
    }

    public static void main(String[] args) {
        for (int seed = 0; seed < RUNS && Check.wrongSoFar() == 0; seed++) {
            new ModelTest(seed).play();
        }
        for (int rule = 0; rule < 18; rule++) {
            Check.holds("RULE " + rule + " was met", REWRITTEN[rule] > 0);
        }
        Check.holds("long sweeps were met", longestSweep > 9);
        Check.holds("runs that FAIL and others were met", failedRuns > RUNS && goodRuns > RUNS);
        System.out.println("rewritten " + Arrays.toString(REWRITTEN) + ", no room " + Arrays.toString(NO_ROOM)
            + ", longest sweep " + longestSweep + ", failed runs " + failedRuns + ", others " + goodRuns);
        Check.end();
    }

    private void play() {
        int building = 40 + random.nextInt(120);
        for (int i = 0; i < 16; i++) {
            same("row", i % 4, small(), small(), small());
        }
        for (int m = 0; m < 4; m++) {
            same("formula", 0, m, 0);
        }
        for (int i = 0; i < 12; i++) {
            formula();
        }
        while (calls < CALLS - 20 && Check.wrongSoFar() == 0) {
            int choice = random.nextInt(100);
            if (calls < building) {
                build(choice);
            } else if (choice < 20) {
                build(random.nextInt(100));
            } else if (choice < 45) {
                runOne(nodeNumber());
            } else if (choice < 60) {
                tell();
            } else if (choice < 90) {
                rewriteOne();
            } else if (choice < 95) {
                sweepOne();
            } else {
                same("count", random.nextInt(6) - 1);
            }
        }
        lookAtAll();
    }

    private void build(int choice) {
        if (choice < 12) {
            same("row", number(4), small(), small(), small());
        } else if (choice < 14) {
            same("clear", number(4));
        } else if (choice < 18) {
            same("table", number(8), small());
        } else if (choice < 45) {
            formula();
        } else {
            node();
        }
    }

    private void formula() {
        int kind = random.nextInt(3) == 0 ? random.nextInt(2) : number(12);
        if (!risky && (kind == 5 || kind == 6)) {
            kind = 10;
        }
        int a = kind == 0 ? number(6) : kind == 1 ? small() : number(model.formulas.size());
        same("formula", kind, a, number(model.formulas.size()));
    }

    private void node() {
        if (model.nodes.size() < 3) {
            nodeOn(0, number(4));
        } else if (random.nextBoolean()) {
            nodeOn(random.nextInt(10) == 0 ? number(9) : 1 + random.nextInt(8), nodeNumber());
        } else {
            String pair = PAIRS[random.nextInt(PAIRS.length)];
            int lower = nodeOn(pair.charAt(1) - '0', nodeNumber());
            nodeOn(pair.charAt(0) - '0', lower);
        }
    }

    private int nodeOn(int kind, int a) {
        int v = 0;
        if (kind == 1 || kind == 2) {
            v = number(model.formulas.size());
        } else if (kind == 3 || kind == 4) {
            v = random.nextInt(4) > 0 ? 63 & ~(1 << random.nextInt(6)) : number(64);
        } else if (kind == 6) {
            v = number(3);
        } else if (kind == 8) {
            v = random.nextInt(12) == 0 ? number(101) : 1 + random.nextInt(8);
        }
        return same("node", kind, a, nodeNumber(), number(random.nextInt(3) == 0 ? 6 : 2), v);
    }

    private void runOne(int n) {
        int rows = same("run", n);
        if (rows >= 0) {
            goodRuns++;
        } else if (rows < -3) {
            failedRuns++;
        }
        for (int what = 0; what < 4; what++) {
            same("worked", what);
        }
        same("member", random.nextInt(8) - 1, number(6));
        same("member", Math.max(0, rows) - random.nextInt(2), number(6));
    }

    private void tell() {
        if (random.nextInt(4) == 0) {
            same("formulaOf", number(model.formulas.size()), number(2));
        } else {
            same("told", nodeNumber(), number(7));
        }
    }

    private void rewriteOne() {
        int n = nodeNumber();
        int rule = number(18);
        List<Integer> fitting = model.fitting(n);
        if (!fitting.isEmpty() && random.nextInt(10) > 0) {
            rule = fitting.get(random.nextInt(fitting.size()));
        }
        same("fits", n, rule);
        String before = rowsOf(n);
        int nodes = same("rewrite", n, rule);
        if (nodes >= 0) {
            REWRITTEN[rule]++;
            Check.holds("the same ROWS after rewrite(" + n + ", " + rule + "), seed " + seed, before.equals(rowsOf(n)));
        } else if (nodes == PlanRules.FULL) {
            NO_ROOM[rule]++;
        }
    }

    private void sweepOne() {
        int n = nodeNumber();
        String before = rowsOf(n);
        int times = same("sweep", n, random.nextInt(3) == 0 ? 100 : number(9));
        longestSweep = Math.max(longestSweep, times);
        Check.holds("the same ROWS after sweep(" + n + "), seed " + seed, before.equals(rowsOf(n)));
    }

    /** Of the Model alone: the class answers for its own ROWS in runOne(). */
    private String rowsOf(int n) {
        if (n < 0 || n >= model.nodes.size()) {
            return "";
        }
        Model.Run run = model.runOf(n);
        if (run.failure != 0) {
            return "FAILURE " + run.failure;
        }
        StringBuilder text = new StringBuilder();
        for (int[] row : run.rows) {
            text.append(Arrays.toString(row));
        }
        return text.toString();
    }

    /** Everything that was told or rewritten; more calls than one object answers, so new ones are made on the way. */
    private void lookAtAll() {
        for (int n = 0; n < model.nodes.size(); n++) {
            for (int what = 0; what < 7; what++) {
                same("told", n, what);
            }
            for (int rule = 0; rule < 18; rule++) {
                same("fits", n, rule);
            }
            int rows = same("run", n);
            for (int i = 0; i < rows; i++) {
                for (int m = 0; m < 6; m++) {
                    same("member", i, m);
                }
            }
        }
        for (int f = 0; f < model.formulas.size(); f++) {
            same("formulaOf", f, 0);
            same("formulaOf", f, 1);
        }
        for (int what = 0; what < 4; what++) {
            same("count", what);
        }
    }

    private int number(int below) {
        if (random.nextInt(wildness) == 0) {
            int[] wild = {-1, below, below + 1, Integer.MIN_VALUE, Integer.MAX_VALUE};
            return wild[random.nextInt(wild.length)];
        }
        return below <= 0 ? 0 : random.nextInt(below);
    }

    private int nodeNumber() {
        int made = model.nodes.size();
        if (made > 5 && random.nextInt(3) > 0) {
            return random.nextBoolean() ? made - 1 - random.nextInt(5) : random.nextInt(6);
        }
        return number(made);
    }

    private int small() {
        int[] far = {Integer.MIN_VALUE, Integer.MAX_VALUE, -1, 1 << 16};
        return random.nextInt(12) == 0 ? far[random.nextInt(far.length)] : random.nextInt(5) - 1;
    }

    /** An object is used for 512 calls: a new one gets those that were not refused, and is as the old one was. */
    private void renew() {
        x = new PlanRules();
        calls = 0;
        for (Change change : changes) {
            answer(change.call(), change.args());
            calls++;
        }
        if (latestRun != null) {
            answer(latestRun.call(), latestRun.args());
            calls++;
        }
        Check.holds("calls are left to look at what was made, seed " + seed, calls < CALLS);
    }

    private void note(Change change, int answer) {
        if (answer >= 0 && CHANGING.contains(change.call())) {
            changes.add(change);
        } else if (answer != PlanRules.BAD && change.call().equals("run")) {
            latestRun = change;
        }
    }

    private int same(String call, int... args) {
        if (calls == CALLS) {
            renew();
        }
        calls++;
        int got = answer(call, args);
        int want = model.answer(call, args);
        story.append(call).append(Arrays.toString(args)).append(" -> ").append(got).append('\n');
        note(new Change(call, args), got);
        Check.due(call + Arrays.toString(args) + ", call " + calls + " of seed " + seed, got, want);
        if (got != want && Check.wrongSoFar() == 1) {
            System.out.println(story);
        }
        return got;
    }

    private int answer(String call, int[] p) {
        switch (call) {
            case "row": return x.row(p[0], p[1], p[2], p[3]);
            case "clear": return x.clear(p[0]);
            case "table": return x.table(p[0], p[1]);
            case "formula": return x.formula(p[0], p[1], p[2]);
            case "formulaOf": return x.formulaOf(p[0], p[1]);
            case "node": return x.node(p[0], p[1], p[2], p[3], p[4]);
            case "told": return x.told(p[0], p[1]);
            case "run": return x.run(p[0]);
            case "member": return x.member(p[0], p[1]);
            case "worked": return x.worked(p[0]);
            case "fits": return x.fits(p[0], p[1]);
            case "rewrite": return x.rewrite(p[0], p[1]);
            case "sweep": return x.sweep(p[0], p[1]);
            case "count": return x.count(p[0]);
            default: throw new IllegalArgumentException(call);
        }
    }

    /** What the document says, in the plainest form, without regard to time or room. */
    private static final class Model {
        private static final int BAD = -1, FULL = -2, NO = -3;

        /** A FORMULA or NODE: its kind and what was told. */
        private record Formula(int kind, int a, int b) { }

        private record Node(int kind, int a, int b, int m, int v) { }

        private static final class Failure extends RuntimeException {
            private static final long serialVersionUID = 1;
            final int number;

            Failure(int number) {
                super(null, null, false, false);
                this.number = number;
            }
        }

        private static final class Run {
            final Map<Integer, List<int[]>> done = new HashMap<>();
            List<int[]> rows = List.of();
            int failure = 0;
            int formulas = 0;
            int nodes = 0;
            int node = -1;
        }

        final List<List<int[]>> sources = new ArrayList<>();
        final int[] items = new int[8];
        List<Formula> formulas = new ArrayList<>();
        List<Node> nodes = new ArrayList<>();
        Run latest = new Run();
        int rewritten = 0;

        Model() {
            for (int i = 0; i < 4; i++) {
                sources.add(new ArrayList<>());
            }
        }

        int answer(String call, int[] p) {
            switch (call) {
                case "row": return row(p);
                case "clear": return clear(p[0]);
                case "table": return table(p[0], p[1]);
                case "formula": return formula(p[0], p[1], p[2]);
                case "formulaOf": return formulaOf(p[0], p[1]);
                case "node": return node(new Node(p[0], p[1], p[2], p[3], p[4]));
                case "told": return told(p[0], p[1]);
                case "run": return run(p[0]);
                case "member": return member(p[0], p[1]);
                case "worked": return worked(p[0]);
                case "fits": return isNode(p[0]) && in(p[1], 18) ? rewritten(p[0], p[1]) == null ? 0 : 1 : BAD;
                case "rewrite": return rewrite(p[0], p[1]);
                case "sweep": return sweep(p[0], p[1]);
                case "count": return count(p[0]);
                default: throw new IllegalArgumentException(call);
            }
        }

        private static boolean in(int i, int below) {
            return 0 <= i && i < below;
        }

        private boolean isFormula(int f) {
            return in(f, formulas.size());
        }

        private boolean isNode(int n) {
            return in(n, nodes.size());
        }

        private int row(int[] p) {
            if (!in(p[0], 4)) {
                return BAD;
            }
            List<int[]> rows = sources.get(p[0]);
            if (rows.size() == 6) {
                return FULL;
            }
            rows.add(new int[] {p[1], p[2], p[3], 0, 0, 0});
            return rows.size();
        }

        private int clear(int source) {
            if (!in(source, 4)) {
                return BAD;
            }
            int had = sources.get(source).size();
            sources.get(source).clear();
            return had;
        }

        private int table(int i, int v) {
            if (!in(i, 8)) {
                return BAD;
            }
            items[i] = v;
            return 1;
        }

        private static int parts(int kind) {
            return kind < 2 ? 0 : kind == 6 || kind == 11 ? 1 : 2;
        }

        private int formula(int kind, int a, int b) {
            if (!in(kind, 12) || kind == 0 && !in(a, 6) || parts(kind) > 0 && !isFormula(a)
                || parts(kind) > 1 && !isFormula(b)) {
                return BAD;
            }
            Formula f = new Formula(kind, a, b);
            if (formulas.size() == 40 || size(f) > 30) {
                return FULL;
            }
            formulas.add(f);
            return formulas.size() - 1;
        }

        private int size(Formula f) {
            int parts = parts(f.kind);
            return 1 + (parts > 0 ? size(formulas.get(f.a)) : 0) + (parts > 1 ? size(formulas.get(f.b)) : 0);
        }

        private TreeSet<Integer> reads(int number) {
            Formula f = formulas.get(number);
            TreeSet<Integer> set = new TreeSet<>();
            if (f.kind == 0) {
                set.add(f.a);
            }
            if (parts(f.kind) > 0) {
                set.addAll(reads(f.a));
            }
            if (parts(f.kind) > 1) {
                set.addAll(reads(f.b));
            }
            return set;
        }

        private boolean risky(int number) {
            Formula f = formulas.get(number);
            return f.kind == 5 || f.kind == 6 || parts(f.kind) > 0 && risky(f.a) || parts(f.kind) > 1 && risky(f.b);
        }

        private int formulaOf(int f, int what) {
            if (!isFormula(f) || !in(what, 2)) {
                return BAD;
            }
            if (what == 1) {
                return risky(f) ? 1 : 0;
            }
            int set = 0;
            for (int m : reads(f)) {
                set += 1 << m;
            }
            return set;
        }

        private int node(Node n) {
            int kind = n.kind;
            if (!in(kind, 9) || (kind == 0 ? !in(n.a, 4) : !isNode(n.a))) {
                return BAD;
            }
            if ((kind == 4 || kind == 5) && !isNode(n.b) || (kind == 2 || kind == 4 || kind == 6) && !in(n.m, 6)) {
                return BAD;
            }
            if ((kind == 1 || kind == 2) && !isFormula(n.v) || (kind == 3 || kind == 4) && !in(n.v, 64)) {
                return BAD;
            }
            if (kind == 6 && (!in(n.v, 6) || n.v == n.m) || kind == 8 && !in(n.v, 101)) {
                return BAD;
            }
            if (nodes.size() == 60 || bound(n) > 100) {
                return FULL;
            }
            nodes.add(n);
            return nodes.size() - 1;
        }

        private int bound(Node n) {
            switch (n.kind) {
                case 0: return 6;
                case 4: return bound(nodes.get(n.a)) * bound(nodes.get(n.b));
                case 5: return bound(nodes.get(n.a)) + bound(nodes.get(n.b));
                case 8: return Math.min(n.v, bound(nodes.get(n.a)));
                default: return bound(nodes.get(n.a));
            }
        }

        private boolean riskyNode(int number) {
            Node n = nodes.get(number);
            return n.kind != 0 && (riskyNode(n.a) || (n.kind == 4 || n.kind == 5) && riskyNode(n.b)
                || (n.kind == 1 || n.kind == 2) && risky(n.v));
        }

        private int told(int number, int what) {
            if (!isNode(number) || !in(what, 7)) {
                return BAD;
            }
            Node n = nodes.get(number);
            boolean hasB = n.kind == 4 || n.kind == 5;
            boolean hasM = n.kind == 2 || n.kind == 4 || n.kind == 6;
            boolean hasV = n.kind != 0 && n.kind != 5 && n.kind != 7;
            int[] all = {n.kind, n.a, hasB ? n.b : 0, hasM ? n.m : 0, hasV ? n.v : 0, bound(n), riskyNode(number) ? 1 : 0};
            return all[what];
        }

        Run runOf(int n) {
            Run run = new Run();
            try {
                run.rows = rowsOf(run, n);
            } catch (Failure failure) {
                run.failure = failure.number;
            }
            return run;
        }

        private int run(int n) {
            if (!isNode(n)) {
                return BAD;
            }
            latest = runOf(n);
            return latest.failure == 0 ? latest.rows.size() : -10 - latest.failure;
        }

        private List<int[]> rowsOf(Run run, int number) {
            if (run.done.containsKey(number)) {
                return run.done.get(number);
            }
            Node n = nodes.get(number);
            List<int[]> a = n.kind == 0 ? sources.get(n.a) : rowsOf(run, n.a);
            List<int[]> b = n.kind == 4 || n.kind == 5 ? rowsOf(run, n.b) : List.of();
            run.nodes++;
            run.node = number;
            List<int[]> rows = work(run, n, a, b);
            run.node = -1;
            run.done.put(number, rows);
            return rows;
        }

        private List<int[]> work(Run run, Node n, List<int[]> a, List<int[]> b) {
            List<int[]> rows = new ArrayList<>();
            Map<Object, int[]> seen = new LinkedHashMap<>();
            for (int[] old : a) {
                int[] row = old.clone();
                switch (n.kind) {
                    case 0:
                    case 5:
                        rows.add(row);
                        break;
                    case 1:
                        if (value(run, n.v, old) != 0) {
                            rows.add(row);
                        }
                        break;
                    case 2:
                        row[n.m] = value(run, n.v, old);
                        rows.add(row);
                        break;
                    case 3:
                        rows.add(mixed(new int[6], old, n.v));
                        break;
                    case 4:
                        for (int[] other : b) {
                            if (other[n.m] == old[n.m]) {
                                rows.add(mixed(old, other, n.v));
                            }
                        }
                        break;
                    case 6:
                        int[] sum = seen.computeIfAbsent(old[n.m], key -> new int[6]);
                        sum[n.m] = old[n.m];
                        sum[n.v] += old[n.v];
                        break;
                    case 7:
                        seen.putIfAbsent(Arrays.toString(old), row);
                        break;
                    default:
                        if (rows.size() < n.v) {
                            rows.add(row);
                        }
                        break;
                }
            }
            rows.addAll(seen.values());
            if (n.kind == 5) {
                rows.addAll(b);
            }
            return rows;
        }

        private static int[] mixed(int[] row, int[] other, int set) {
            int[] mixed = row.clone();
            for (int m = 0; m < 6; m++) {
                mixed[m] = (set & 1 << m) != 0 ? other[m] : row[m];
            }
            return mixed;
        }

        private int value(Run run, int number, int[] row) {
            Formula f = formulas.get(number);
            run.formulas++;
            switch (f.kind) {
                case 0: return row[f.a];
                case 1: return f.a;
                case 2: return value(run, f.a, row) + value(run, f.b, row);
                case 3: return value(run, f.a, row) - value(run, f.b, row);
                case 4: return value(run, f.a, row) * value(run, f.b, row);
                case 5: return quotient(value(run, f.a, row), value(run, f.b, row));
                case 6: return item(value(run, f.a, row));
                case 7: return value(run, f.a, row) < value(run, f.b, row) ? 1 : 0;
                case 8: return value(run, f.a, row) == value(run, f.b, row) ? 1 : 0;
                case 9: return value(run, f.a, row) != 0 && value(run, f.b, row) != 0 ? 1 : 0;
                case 10: return value(run, f.a, row) != 0 || value(run, f.b, row) != 0 ? 1 : 0;
                default: return value(run, f.a, row) == 0 ? 1 : 0;
            }
        }

        private static int quotient(int a, int b) {
            if (b == 0) {
                throw new Failure(1);
            }
            return (int) ((long) a / b);
        }

        private int item(int i) {
            if (!in(i, 8)) {
                throw new Failure(2);
            }
            return items[i];
        }

        private int member(int i, int m) {
            return in(i, latest.rows.size()) && in(m, 6) ? latest.rows.get(i)[m] : 0;
        }

        private int worked(int what) {
            return in(what, 4) ? new int[] {latest.failure, latest.formulas, latest.nodes, latest.node}[what] : BAD;
        }

        private int count(int what) {
            int rows = sources.stream().mapToInt(List::size).sum();
            return in(what, 4) ? new int[] {formulas.size(), nodes.size(), rewritten, rows}[what] : BAD;
        }

        /** A plan as it is written in the RULES: a new NODE around parts, each a number or a new NODE. */
        private record Written(int kind, Object a, Object b, int m, int v, Formula h) { }

        private static Written w(int kind, Object a, Object b, int m, int v) {
            return new Written(kind, a, b, m, v, null);
        }

        private static Written w(int kind, Object a, int m, int v) {
            return w(kind, a, null, m, v);
        }

        /** What a RULE writes in place of a NODE; null where it does not stand so. */
        private Written rewritten(int number, int rule) {
            Node n = nodes.get(number);
            if (n.kind == 0) {
                return null;
            }
            Node i = nodes.get(n.a);
            int g = n.v;
            Integer x = i.a;
            Integer y = i.b;
            switch (rule) {
                case 0: return n.kind == 1 && i.kind == 2 && !reads(g).contains(i.m) && !risky(i.v)
                    ? w(2, w(1, x, 0, g), i.m, i.v) : null;
                case 1: return n.kind == 1 && i.kind == 3 && ofAlone(g, i.v) ? w(3, w(1, x, 0, g), 0, i.v) : null;
                case 2: return n.kind == 1 && i.kind == 4 && ofAlone(g, 63 - i.v) && !risky(g)
                    ? w(4, w(1, x, 0, g), y, i.m, i.v) : null;
                case 3: return n.kind == 1 && i.kind == 4 && ofAlone(g, i.v) && !risky(g)
                    ? w(4, x, w(1, y, 0, g), i.m, i.v) : null;
                case 4: return n.kind == 1 && i.kind == 5 && !(risky(g) && riskyNode(y))
                    ? w(5, w(1, x, 0, g), w(1, y, 0, g), 0, 0) : null;
                case 5: return n.kind == 1 && i.kind == 6 && ofAlone(g, 1 << i.m) && !risky(g)
                    ? w(6, w(1, x, 0, g), i.m, i.v) : null;
                case 6: return n.kind == 1 && i.kind == 7 ? w(7, w(1, x, 0, g), 0, 0) : null;
                case 7: return n.kind == 1 && i.kind == 1 && !(risky(i.v) && risky(g))
                    ? new Written(1, x, null, 0, 0, new Formula(9, i.v, g)) : null;
                case 8: return n.kind == 2 && i.kind == 2 && n.m == i.m && !reads(g).contains(n.m) && !risky(i.v)
                    ? w(2, x, n.m, g) : null;
                case 9: return n.kind == 3 && i.kind == 3 ? w(3, x, 0, i.v & n.v) : null;
                case 10: return n.kind == 3 && i.kind == 2 && (n.v & 1 << i.m) == 0 && !risky(i.v)
                    ? w(3, x, 0, n.v) : null;
                case 11: return n.kind == 3 && i.kind == 5 ? w(5, w(3, x, 0, n.v), w(3, y, 0, n.v), 0, 0) : null;
                case 12: return n.kind == 6 && i.kind == 5 && !(isFold(x, n.m, n.v) && isFold(y, n.m, n.v))
                    ? w(6, w(5, w(6, x, n.m, n.v), w(6, y, n.m, n.v), 0, 0), n.m, n.v) : null;
                case 13: return n.kind == 6 && i.kind == 3 && (i.v & 1 << n.m) != 0 && (i.v & 1 << n.v) != 0
                    ? w(6, x, n.m, n.v) : null;
                case 14: return n.kind == 7 && i.kind == 7 ? w(7, x, 0, 0) : null;
                case 15: return n.kind == 8 && i.kind == 8 ? w(8, x, 0, Math.min(i.v, n.v)) : null;
                case 16: return n.kind == 7 && i.kind == 5 && !(nodes.get(x).kind == 7 && nodes.get(y).kind == 7)
                    ? w(7, w(5, w(7, x, 0, 0), w(7, y, 0, 0), 0, 0), 0, 0) : null;
                default: return n.kind == 8 && i.kind == 2 && !risky(i.v) ? w(2, w(8, x, 0, n.v), i.m, i.v) : null;
            }
        }

        private boolean ofAlone(int f, int set) {
            return reads(f).stream().allMatch(m -> (set & 1 << m) != 0);
        }

        private boolean isFold(int number, int m, int k) {
            Node n = nodes.get(number);
            return n.kind == 6 && n.m == m && n.v == k;
        }

        private int rewrite(int n, int rule) {
            if (!isNode(n) || !in(rule, 18)) {
                return BAD;
            }
            Written written = rewritten(n, rule);
            if (written == null) {
                return NO;
            }
            List<Node> nodesBefore = new ArrayList<>(nodes);
            List<Formula> formulasBefore = new ArrayList<>(formulas);
            Node outermost = told(written);
            if (nodes.size() > 60 || formulas.size() > 40 || written.h != null && size(written.h) > 30) {
                nodes = nodesBefore;
                formulas = formulasBefore;
                return FULL;
            }
            nodes.set(n, outermost);
            rewritten++;
            return nodes.size();
        }

        private Node told(Written w) {
            int[] parts = new int[2];
            Object[] within = {w.a, w.b};
            for (int i = 0; i < 2; i++) {
                if (within[i] instanceof Written part) {
                    Node node = told(part);
                    nodes.add(node);
                    parts[i] = nodes.size() - 1;
                } else if (within[i] instanceof Integer number) {
                    parts[i] = number;
                }
            }
            int v = w.v;
            if (w.h != null) {
                formulas.add(w.h);
                v = formulas.size() - 1;
            }
            return new Node(w.kind, parts[0], parts[1], w.m, v);
        }

        List<Integer> fitting(int n) {
            List<Integer> rules = new ArrayList<>();
            for (int rule = 0; rule < 18 && isNode(n); rule++) {
                if (rewritten(n, rule) != null) {
                    rules.add(rule);
                }
            }
            return rules;
        }

        private void gather(int number, TreeSet<Integer> below) {
            if (below.add(number)) {
                Node n = nodes.get(number);
                if (n.kind != 0) {
                    gather(n.a, below);
                }
                if (n.kind == 4 || n.kind == 5) {
                    gather(n.b, below);
                }
            }
        }

        private int sweep(int n, int most) {
            if (!isNode(n) || !in(most, 101)) {
                return BAD;
            }
            int times = 0;
            while (times < most && step(n)) {
                times++;
            }
            return times;
        }

        private boolean step(int n) {
            TreeSet<Integer> below = new TreeSet<>();
            gather(n, below);
            for (int at : below) {
                List<Integer> rules = fitting(at);
                if (!rules.isEmpty()) {
                    return rewrite(at, rules.get(0)) > 0;
                }
            }
            return false;
        }
    }
}
