import java.util.Arrays;

/** Plans of jobs on rows, and the rules that rewrite them. The words are those of the document. */
public final class PlanRules {
    public static final int BAD = -1, FULL = -2, NO = -3;

    private static final int MEMBERS = 6;
    private static final int SETS = 1 << MEMBERS;
    private static final int MOST_SWEEPS = 100;

    private final Sources sources;
    private final Formulas formulas;
    private final Nodes nodes;
    private final Runner runner;
    private final Rules rules;

    public PlanRules() {
        sources = new Sources();
        formulas = new Formulas();
        nodes = new Nodes(formulas);
        runner = new Runner(sources, formulas, nodes);
        rules = new Rules(formulas, nodes);
    }

    public int row(int source, int a, int b, int c) {
        if (!sources.has(source)) {
            return BAD;
        }
        return sources.add(source, a, b, c);
    }

    public int clear(int source) {
        if (!sources.has(source)) {
            return BAD;
        }
        return sources.empty(source);
    }

    public int table(int i, int v) {
        if (!sources.hasItem(i)) {
            return BAD;
        }
        sources.items[i] = v;
        return 1;
    }

    public int formula(int kind, int a, int b) {
        if (!formulas.isAsTold(kind, a, b)) {
            return BAD;
        }
        return formulas.add(kind, a, b);
    }

    public int formulaOf(int f, int what) {
        if (!formulas.has(f)) {
            return BAD;
        }
        switch (what) {
            case 0:
                return formulas.reads[f];
            case 1:
                return asNumber(formulas.fails[f]);
            default:
                return BAD;
        }
    }

    public int node(int kind, int a, int b, int m, int v) {
        if (!nodes.isAsTold(kind, a, b, m, v)) {
            return BAD;
        }
        if (!nodes.hasRoom(1) || nodes.boundOf(kind, a, b, v) > Nodes.MOST_BOUND) {
            return FULL;
        }
        return nodes.add(kind, a, b, m, v);
    }

    public int told(int node, int what) {
        if (!nodes.has(node)) {
            return BAD;
        }
        switch (what) {
            case 0:
                return nodes.kinds[node];
            case 1:
                return nodes.lefts[node];
            case 2:
                return nodes.rights[node];
            case 3:
                return nodes.members[node];
            case 4:
                return nodes.values[node];
            case 5:
                return nodes.bounds[node];
            case 6:
                return asNumber(nodes.fails[node]);
            default:
                return BAD;
        }
    }

    public int run(int node) {
        if (!nodes.has(node)) {
            return BAD;
        }
        return runner.give(node);
    }

    public int member(int i, int m) {
        if (!isMember(m)) {
            return 0;
        }
        return runner.given(i, m);
    }

    public int worked(int what) {
        switch (what) {
            case 0:
                return runner.failure;
            case 1:
                return runner.formulasWorked;
            case 2:
                return runner.nodesWorked;
            case 3:
                return runner.failedNode;
            default:
                return BAD;
        }
    }

    public int fits(int node, int rule) {
        if (!nodes.has(node) || !rules.has(rule)) {
            return BAD;
        }
        return asNumber(rules.suits(node, rule));
    }

    public int rewrite(int node, int rule) {
        if (!nodes.has(node) || !rules.has(rule)) {
            return BAD;
        }
        if (!rules.suits(node, rule)) {
            return NO;
        }
        if (!rules.hasRoom(node, rule)) {
            return FULL;
        }
        rules.apply(node, rule);
        return nodes.made;
    }

    public int sweep(int node, int most) {
        if (!nodes.has(node) || most < 0 || most > MOST_SWEEPS) {
            return BAD;
        }
        for (int times = 0; times < most; times++) {
            int at = rules.leastNode(node);
            int rule = at < 0 ? -1 : rules.leastRule(at);
            if (rule < 0 || !rules.hasRoom(at, rule)) {
                return times;
            }
            rules.apply(at, rule);
        }
        return most;
    }

    public int count(int what) {
        switch (what) {
            case 0:
                return formulas.made;
            case 1:
                return nodes.made;
            case 2:
                return rules.times;
            case 3:
                return sources.total();
            default:
                return BAD;
        }
    }

    private static boolean isMember(int m) {
        return m >= 0 && m < MEMBERS;
    }

    private static boolean isSet(int s) {
        return s >= 0 && s < SETS;
    }

    private static boolean isIn(int m, int set) {
        return (set >> m & 1) == 1;
    }

    private static boolean isWithin(int part, int set) {
        return (part & ~set) == 0;
    }

    private static int asNumber(boolean holds) {
        return holds ? 1 : 0;
    }

    /** THE SOURCES and THE TABLE. */
    private static final class Sources {
        static final int MOST = 4, MOST_ROWS = 6, TOLD = 3, ITEMS = 8;

        final int[] cells = new int[MOST * MOST_ROWS * TOLD];
        final int[] sizes = new int[MOST];
        final int[] items = new int[ITEMS];

        boolean has(int source) {
            return source >= 0 && source < MOST;
        }

        boolean hasItem(int i) {
            return i >= 0 && i < ITEMS;
        }

        int add(int source, int a, int b, int c) {
            if (sizes[source] >= MOST_ROWS) {
                return FULL;
            }
            int at = cellOf(source, sizes[source]);
            cells[at] = a;
            cells[at + 1] = b;
            cells[at + 2] = c;
            sizes[source]++;
            return sizes[source];
        }

        int empty(int source) {
            int had = sizes[source];
            sizes[source] = 0;
            return had;
        }

        int total() {
            int sum = 0;
            for (int size : sizes) {
                sum += size;
            }
            return sum;
        }

        int cellOf(int source, int i) {
            return (source * MOST_ROWS + i) * TOLD;
        }
    }

    /** What FORMULAS are; how they are worked is the Runner's. */
    private static final class Formulas {
        static final int MEMBER = 0, NUMBER = 1, SUM = 2, DIFFERENCE = 3, PRODUCT = 4, QUOTIENT = 5;
        static final int ITEM = 6, BELOW = 7, SAME = 8, BOTH = 9, EITHER = 10, NOT = 11;
        static final int KINDS = 12, MOST = 40, MOST_SIZE = 30;

        final int[] kinds = new int[MOST];
        final int[] firsts = new int[MOST];
        final int[] seconds = new int[MOST];
        final int[] sizes = new int[MOST];
        final int[] reads = new int[MOST];
        final boolean[] fails = new boolean[MOST];
        int made;

        boolean has(int f) {
            return f >= 0 && f < made;
        }

        boolean isAsTold(int kind, int a, int b) {
            if (kind < 0 || kind >= KINDS || kind == MEMBER && !isMember(a)) {
                return false;
            }
            return (!takesFirst(kind) || has(a)) && (!takesSecond(kind) || has(b));
        }

        boolean hasRoom(int kind, int a, int b) {
            return made < MOST && sizeOf(kind, a, b) <= MOST_SIZE;
        }

        int add(int kind, int a, int b) {
            if (!hasRoom(kind, a, b)) {
                return FULL;
            }
            int f = made;
            kinds[f] = kind;
            firsts[f] = a;
            seconds[f] = takesSecond(kind) ? b : 0;
            sizes[f] = sizeOf(kind, a, b);
            reads[f] = readsOf(kind, a, b);
            fails[f] = failsOf(kind, a, b);
            made++;
            return f;
        }

        private static boolean takesFirst(int kind) {
            return kind >= SUM;
        }

        private static boolean takesSecond(int kind) {
            return kind >= SUM && kind != ITEM && kind != NOT;
        }

        private int sizeOf(int kind, int a, int b) {
            return 1 + (takesFirst(kind) ? sizes[a] : 0) + (takesSecond(kind) ? sizes[b] : 0);
        }

        private int readsOf(int kind, int a, int b) {
            if (kind == MEMBER) {
                return 1 << a;
            }
            return (takesFirst(kind) ? reads[a] : 0) | (takesSecond(kind) ? reads[b] : 0);
        }

        private boolean failsOf(int kind, int a, int b) {
            if (kind == QUOTIENT || kind == ITEM) {
                return true;
            }
            return takesFirst(kind) && fails[a] || takesSecond(kind) && fails[b];
        }
    }

    /** The plan: what NODES are, and which stand below which. */
    private static final class Nodes {
        static final int SOURCE = 0, FILTER = 1, SET = 2, KEEP = 3, JOIN = 4;
        static final int UNION = 5, FOLD = 6, ONCE = 7, FIRST = 8;
        static final int KINDS = 9, MOST = 60, MOST_BOUND = 100;

        final Formulas formulas;
        final int[] kinds = new int[MOST];
        final int[] lefts = new int[MOST];
        final int[] rights = new int[MOST];
        final int[] members = new int[MOST];
        final int[] values = new int[MOST];
        final int[] bounds = new int[MOST];
        final boolean[] fails = new boolean[MOST];
        int made;
        final int[] order = new int[MOST];
        private final int[] open = new int[MOST];
        private final int[] looks = new int[MOST];

        Nodes(Formulas formulas) {
            this.formulas = formulas;
        }

        boolean has(int n) {
            return n >= 0 && n < made;
        }

        boolean hasRoom(int more) {
            return made + more <= MOST;
        }

        boolean isAsTold(int kind, int a, int b, int m, int v) {
            if (kind < 0 || kind >= KINDS) {
                return false;
            }
            if (kind == SOURCE) {
                return a >= 0 && a < Sources.MOST;
            }
            return has(a) && (!takesRight(kind) || has(b)) && (!takesMember(kind) || isMember(m))
                && isValue(kind, m, v);
        }

        private boolean isValue(int kind, int m, int v) {
            switch (kind) {
                case FILTER:
                case SET:
                    return formulas.has(v);
                case KEEP:
                case JOIN:
                    return isSet(v);
                case FOLD:
                    return isMember(v) && v != m;
                case FIRST:
                    return v >= 0 && v <= MOST_BOUND;
                default:
                    return true;
            }
        }

        private static boolean takesRight(int kind) {
            return kind == JOIN || kind == UNION;
        }

        private static boolean takesMember(int kind) {
            return kind == SET || kind == JOIN || kind == FOLD;
        }

        private static boolean takesValue(int kind) {
            return kind != SOURCE && kind != UNION && kind != ONCE;
        }

        private static boolean takesFormula(int kind) {
            return kind == FILTER || kind == SET;
        }

        int boundOf(int kind, int a, int b, int v) {
            switch (kind) {
                case SOURCE:
                    return Sources.MOST_ROWS;
                case JOIN:
                    return bounds[a] * bounds[b];
                case UNION:
                    return bounds[a] + bounds[b];
                case FIRST:
                    return Math.min(v, bounds[a]);
                default:
                    return bounds[a];
            }
        }

        private boolean failsOf(int kind, int a, int b, int v) {
            if (kind == SOURCE) {
                return false;
            }
            return fails[a] || takesRight(kind) && fails[b] || takesFormula(kind) && formulas.fails[v];
        }

        int add(int kind, int a, int b, int m, int v) {
            int n = made;
            made++;
            write(n, kind, a, b, m, v);
            return n;
        }

        /** No RULE changes the BOUND of its NODE or whether it MAY FAIL, so NODES above need no second look. */
        void write(int n, int kind, int a, int b, int m, int v) {
            bounds[n] = boundOf(kind, a, b, v);
            fails[n] = failsOf(kind, a, b, v);
            kinds[n] = kind;
            lefts[n] = a;
            rights[n] = takesRight(kind) ? b : 0;
            members[n] = takesMember(kind) ? m : 0;
            values[n] = takesValue(kind) ? v : 0;
        }

        /**
         * Puts n and all below it in the order of a RUN: how many. A chain may be 60 deep, so the NODES
         * that wait stand in a row of their own; each is looked at three times: for a, for b, for itself.
         */
        int listFrom(int n) {
            Arrays.fill(looks, 0);
            open[0] = n;
            int depth = 1;
            int listed = 0;
            for (int step = 0; step < 3 * MOST && depth > 0; step++) {
                int at = open[depth - 1];
                looks[at]++;
                if (looks[at] == 3) {
                    order[listed] = at;
                    listed++;
                    depth--;
                } else {
                    int next = looks[at] == 1 ? leftBelow(at) : rightBelow(at);
                    if (next >= 0 && looks[next] == 0) {
                        open[depth] = next;
                        depth++;
                    }
                }
            }
            return listed;
        }

        /** Whether the latest listFrom() came upon n. */
        boolean isListed(int n) {
            return looks[n] > 0;
        }

        private int leftBelow(int n) {
            return kinds[n] == SOURCE ? -1 : lefts[n];
        }

        private int rightBelow(int n) {
            return takesRight(kinds[n]) ? rights[n] : -1;
        }
    }

    /** Works NODES. All ROWS of a RUN stand one behind another in cells, which the next RUN uses again. */
    private static final class Runner {
        static final int FEW_CELLS = 20 * MEMBERS;
        static final int MOST_CELLS = Nodes.MOST * Nodes.MOST_BOUND * MEMBERS;
        static final int ZERO = 1, INDEX = 2;

        final Sources sources;
        final Formulas formulas;
        final Nodes nodes;
        private int[] cells = new int[FEW_CELLS];
        private int used;
        private final int[] starts = new int[Nodes.MOST];
        private final int[] ends = new int[Nodes.MOST];
        private int givenStart;
        private int givenRows;
        int failure;
        int formulasWorked;
        int nodesWorked;
        int failedNode = -1;

        Runner(Sources sources, Formulas formulas, Nodes nodes) {
            this.sources = sources;
            this.formulas = formulas;
            this.nodes = nodes;
        }

        int give(int n) {
            used = 0;
            failure = 0;
            formulasWorked = 0;
            nodesWorked = 0;
            failedNode = -1;
            int listed = nodes.listFrom(n);
            for (int i = 0; i < listed && failure == 0; i++) {
                int at = nodes.order[i];
                nodesWorked++;
                starts[at] = used;
                work(at);
                ends[at] = used;
                failedNode = failure == 0 ? -1 : at;
            }
            givenStart = starts[n];
            givenRows = failure == 0 ? (ends[n] - starts[n]) / MEMBERS : 0;
            return failure == 0 ? givenRows : -10 - failure;
        }

        int given(int i, int m) {
            if (i < 0 || i >= givenRows) {
                return 0;
            }
            return cells[givenStart + i * MEMBERS + m];
        }

        private void work(int n) {
            int a = nodes.lefts[n];
            switch (nodes.kinds[n]) {
                case Nodes.SOURCE:
                    giveSource(a);
                    break;
                case Nodes.FILTER:
                    giveFiltered(a, nodes.values[n]);
                    break;
                case Nodes.SET:
                    giveSet(a, nodes.members[n], nodes.values[n]);
                    break;
                case Nodes.KEEP:
                    giveKept(a, nodes.values[n]);
                    break;
                case Nodes.JOIN:
                    giveJoined(a, nodes.rights[n], nodes.members[n], nodes.values[n]);
                    break;
                case Nodes.UNION:
                    giveFirst(a, Nodes.MOST_BOUND);
                    giveFirst(nodes.rights[n], Nodes.MOST_BOUND);
                    break;
                case Nodes.FOLD:
                    giveFolded(a, nodes.members[n], nodes.values[n]);
                    break;
                case Nodes.ONCE:
                    giveOnce(a);
                    break;
                default:
                    giveFirst(a, nodes.values[n]);
                    break;
            }
        }

        private void giveSource(int source) {
            for (int i = 0; i < sources.sizes[source]; i++) {
                int row = addEmpty();
                System.arraycopy(sources.cells, sources.cellOf(source, i), cells, row, Sources.TOLD);
            }
        }

        private void giveFiltered(int a, int f) {
            for (int row = starts[a]; row < ends[a]; row += MEMBERS) {
                int value = valueOf(f, row);
                if (failure != 0) {
                    return;
                }
                if (value != 0) {
                    addCopy(row);
                }
            }
        }

        private void giveSet(int a, int m, int f) {
            for (int row = starts[a]; row < ends[a]; row += MEMBERS) {
                int value = valueOf(f, row);
                if (failure != 0) {
                    return;
                }
                int copy = addCopy(row);
                cells[copy + m] = value;
            }
        }

        private void giveKept(int a, int s) {
            for (int row = starts[a]; row < ends[a]; row += MEMBERS) {
                int kept = addEmpty();
                copyMembers(s, row, kept);
            }
        }

        private void giveJoined(int a, int b, int m, int s) {
            for (int row = starts[a]; row < ends[a]; row += MEMBERS) {
                for (int other = starts[b]; other < ends[b]; other += MEMBERS) {
                    if (cells[row + m] == cells[other + m]) {
                        int joined = addCopy(row);
                        copyMembers(s, other, joined);
                    }
                }
            }
        }

        private void giveFolded(int a, int m, int k) {
            int start = used;
            for (int row = starts[a]; row < ends[a]; row += MEMBERS) {
                int fold = findMember(start, m, cells[row + m]);
                if (fold < 0) {
                    fold = addEmpty();
                    cells[fold + m] = cells[row + m];
                }
                cells[fold + k] += cells[row + k];
            }
        }

        private void giveOnce(int a) {
            int start = used;
            for (int row = starts[a]; row < ends[a]; row += MEMBERS) {
                if (!hasLike(start, row)) {
                    addCopy(row);
                }
            }
        }

        private void giveFirst(int a, int most) {
            int end = Math.min(ends[a], starts[a] + most * MEMBERS);
            for (int row = starts[a]; row < end; row += MEMBERS) {
                addCopy(row);
            }
        }

        /** The ROW from start on whose MEMBER m is the value; -1, if there is none. */
        private int findMember(int start, int m, int value) {
            for (int row = start; row < used; row += MEMBERS) {
                if (cells[row + m] == value) {
                    return row;
                }
            }
            return -1;
        }

        private boolean hasLike(int start, int row) {
            for (int other = start; other < used; other += MEMBERS) {
                if (isLike(row, other)) {
                    return true;
                }
            }
            return false;
        }

        private boolean isLike(int row, int other) {
            for (int m = 0; m < MEMBERS; m++) {
                if (cells[row + m] != cells[other + m]) {
                    return false;
                }
            }
            return true;
        }

        private void copyMembers(int set, int from, int to) {
            for (int m = 0; m < MEMBERS; m++) {
                if (isIn(m, set)) {
                    cells[to + m] = cells[from + m];
                }
            }
        }

        private int addCopy(int row) {
            int copy = addEmpty();
            System.arraycopy(cells, row, cells, copy, MEMBERS);
            return copy;
        }

        /** Grows cells only when a RUN needs more, so that the many small plans stay small. */
        private int addEmpty() {
            int row = used;
            if (row + MEMBERS > cells.length) {
                cells = Arrays.copyOf(cells, Math.min(2 * cells.length, MOST_CELLS));
            }
            for (int m = 0; m < MEMBERS; m++) {
                cells[row + m] = 0;
            }
            used += MEMBERS;
            return row;
        }

        /** What it answers after a FAILURE means nothing. A SIZE of 30 at most keeps it as few calls deep. */
        private int valueOf(int f, int row) {
            formulasWorked++;
            int a = formulas.firsts[f];
            switch (formulas.kinds[f]) {
                case Formulas.MEMBER:
                    return cells[row + a];
                case Formulas.NUMBER:
                    return a;
                default:
                    return valueOfParts(formulas.kinds[f], a, formulas.seconds[f], row);
            }
        }

        private int valueOfParts(int kind, int a, int b, int row) {
            int left = valueOf(a, row);
            if (failure != 0) {
                return 0;
            }
            if (kind == Formulas.ITEM) {
                return itemAt(left);
            }
            if (kind == Formulas.NOT) {
                return left == 0 ? 1 : 0;
            }
            if (kind == Formulas.BOTH && left == 0) {
                return 0;
            }
            if (kind == Formulas.EITHER && left != 0) {
                return 1;
            }
            int right = valueOf(b, row);
            if (failure != 0) {
                return 0;
            }
            return valueOfPair(kind, left, right);
        }

        private int valueOfPair(int kind, int left, int right) {
            switch (kind) {
                case Formulas.SUM:
                    return left + right;
                case Formulas.DIFFERENCE:
                    return left - right;
                case Formulas.PRODUCT:
                    return left * right;
                case Formulas.QUOTIENT:
                    if (right == 0) {
                        failure = ZERO;
                        return 0;
                    }
                    return left / right;
                case Formulas.BELOW:
                    return left < right ? 1 : 0;
                case Formulas.SAME:
                    return left == right ? 1 : 0;
                default:
                    return right != 0 ? 1 : 0;
            }
        }

        private int itemAt(int i) {
            if (!sources.hasItem(i)) {
                failure = INDEX;
                return 0;
            }
            return sources.items[i];
        }
    }

    /** RULES: each wants a NODE n of one kind above a NODE, here the lower one, of another kind. */
    private static final class Rules {
        static final int MOST = 18;
        private static final int[] UPPER = {1, 1, 1, 1, 1, 1, 1, 1, 2, 3, 3, 3, 6, 6, 7, 8, 7, 8};
        private static final int[] LOWER = {2, 3, 4, 4, 5, 6, 7, 1, 2, 3, 2, 5, 5, 3, 7, 8, 5, 2};
        private static final int[] NEW_NODES = {1, 1, 1, 1, 2, 1, 1, 0, 0, 0, 0, 2, 3, 0, 0, 0, 3, 1};
        private static final int MERGE_FILTERS = 7;

        final Formulas formulas;
        final Nodes nodes;
        int times;

        Rules(Formulas formulas, Nodes nodes) {
            this.formulas = formulas;
            this.nodes = nodes;
        }

        boolean has(int rule) {
            return rule >= 0 && rule < MOST;
        }

        boolean suits(int n, int rule) {
            if (nodes.kinds[n] != UPPER[rule]) {
                return false;
            }
            int lower = nodes.lefts[n];
            if (nodes.kinds[lower] != LOWER[rule]) {
                return false;
            }
            if (UPPER[rule] == Nodes.FILTER) {
                return suitsFilter(rule, nodes.values[n], lower);
            }
            return suitsOther(rule, n, lower);
        }

        private boolean suitsFilter(int rule, int g, int lower) {
            int reads = formulas.reads[g];
            boolean safe = !formulas.fails[g];
            int m = nodes.members[lower];
            int v = nodes.values[lower];
            switch (rule) {
                case 0:
                    return !isIn(m, reads) && !formulas.fails[v];
                case 1:
                    return isWithin(reads, v);
                case 2:
                    return (reads & v) == 0 && safe;
                case 3:
                    return isWithin(reads, v) && safe;
                case 4:
                    return safe || !nodes.fails[nodes.rights[lower]];
                case 5:
                    return isWithin(reads, 1 << m) && safe;
                case MERGE_FILTERS:
                    return safe || !formulas.fails[v];
                default:
                    return true;
            }
        }

        private boolean suitsOther(int rule, int n, int lower) {
            int m = nodes.members[n];
            int v = nodes.values[n];
            int lowerMember = nodes.members[lower];
            int lowerValue = nodes.values[lower];
            switch (rule) {
                case 8:
                    return lowerMember == m && !isIn(m, formulas.reads[v]) && !formulas.fails[lowerValue];
                case 10:
                    return !isIn(lowerMember, v) && !formulas.fails[lowerValue];
                case 12:
                case 16:
                    return !isLikeJob(n, nodes.lefts[lower]) || !isLikeJob(n, nodes.rights[lower]);
                case 13:
                    return isIn(m, lowerValue) && isIn(v, lowerValue);
                case 17:
                    return !formulas.fails[lowerValue];
                default:
                    return true;
            }
        }

        private boolean isLikeJob(int n, int other) {
            return nodes.kinds[n] == nodes.kinds[other] && nodes.members[n] == nodes.members[other]
                && nodes.values[n] == nodes.values[other];
        }

        boolean hasRoom(int n, int rule) {
            if (rule == MERGE_FILTERS) {
                return formulas.hasRoom(Formulas.BOTH, nodes.values[nodes.lefts[n]], nodes.values[n]);
            }
            return nodes.hasRoom(NEW_NODES[rule]);
        }

        /** Only for a NODE that stands so, with room. */
        void apply(int n, int rule) {
            int lower = nodes.lefts[n];
            times++;
            switch (rule) {
                case 3:
                    exchange(n, lower, nodes.lefts[lower], addLike(n, nodes.rights[lower]));
                    break;
                case 4:
                case 11:
                    exchange(n, lower, addLike(n, nodes.lefts[lower]), addLike(n, nodes.rights[lower]));
                    break;
                case MERGE_FILTERS:
                    skip(n, lower, formulas.add(Formulas.BOTH, nodes.values[lower], nodes.values[n]));
                    break;
                case 9:
                    skip(n, lower, nodes.values[lower] & nodes.values[n]);
                    break;
                case 15:
                    skip(n, lower, Math.min(nodes.values[lower], nodes.values[n]));
                    break;
                case 8:
                case 10:
                case 13:
                case 14:
                    skip(n, lower, nodes.values[n]);
                    break;
                case 12:
                case 16:
                    workAbove(n, addLike(n, nodes.lefts[lower]), addLike(n, nodes.rights[lower]));
                    break;
                default:
                    exchange(n, lower, addLike(n, nodes.lefts[lower]), nodes.rights[lower]);
                    break;
            }
        }

        /** n takes the lower NODE's job, on a and b. */
        private void exchange(int n, int lower, int a, int b) {
            nodes.write(n, nodes.kinds[lower], a, b, nodes.members[lower], nodes.values[lower]);
        }

        /** n keeps its job, with another value, on what the lower NODE stands above. */
        private void skip(int n, int lower, int value) {
            nodes.write(n, nodes.kinds[n], nodes.lefts[lower], 0, nodes.members[n], value);
        }

        /** n keeps its job, on a new UNION. */
        private void workAbove(int n, int a, int b) {
            int union = nodes.add(Nodes.UNION, a, b, 0, 0);
            nodes.write(n, nodes.kinds[n], union, 0, nodes.members[n], nodes.values[n]);
        }

        /** A new NODE with the job of n, on another NODE. */
        private int addLike(int n, int below) {
            return nodes.add(nodes.kinds[n], below, 0, nodes.members[n], nodes.values[n]);
        }

        /** Of n and those below it the least that some RULE fits; -1, if there is none. */
        int leastNode(int n) {
            nodes.listFrom(n);
            for (int at = 0; at < nodes.made; at++) {
                if (nodes.isListed(at) && leastRule(at) >= 0) {
                    return at;
                }
            }
            return -1;
        }

        /** The least RULE that fits n; -1, if there is none. */
        int leastRule(int n) {
            for (int rule = 0; rule < MOST; rule++) {
                if (suits(n, rule)) {
                    return rule;
                }
            }
            return -1;
        }
    }
}
