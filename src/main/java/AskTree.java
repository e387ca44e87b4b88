/**
 * A learner of small trees of questions from told cases: grown by the greatest gain, the best of a
 * depth, cut back at each price, held against cases that they never saw, voting; with the rules of
 * each leaf, and for each verdict the least that would have changed it.
 */
public final class AskTree {
    public static final int NONE = -1, MANY = -2, GAPS = -3, FULL = -4;

    private static final int MARKS = 8, CLASSES = 4;
    private static final int MOST_CASES = 300, MOST_BEST_CASES = 50, MOST_TREES = 20;
    private static final int MOST_DEPTH = 8, MOST_BEST_DEPTH = 2, MOST_LEAST = 100;
    /** A full tree of the greatest depth: no tree can have more nodes. */
    private static final int MOST_NODES = (2 << MOST_DEPTH) - 1;
    private static final int MOST_FOLDS = 10, MOST_PRICE = 10000;
    private static final int LOWEST = -1000, HIGHEST = 1000, GAP = -32768;
    private static final int NUMBER = 0, SORT = 1;
    private static final int NO = 0, YES = 1;
    private static final int LEAF = -1;
    private static final int REFUSED = -40000;
    private static final int NO_MUST = -2000, IMPOSSIBLE = 2000;

    private final Cases cases = new Cases();
    private final Rows rows = new Rows(cases);
    private final Grower grower = new Grower(cases, rows);
    private final Finder finder = new Finder(cases, rows);
    private final Pruner pruner = new Pruner();
    private final Rules rules = new Rules(cases.kinds);
    /** One place more than there may be trees: the last one is for the trees of folds(). */
    private final Tree[] trees = new Tree[MOST_TREES + 1];
    private final int[] told = new int[MARKS];
    private final int[] turnedMarks = new int[MARKS];
    private final int[] ballots = new int[CLASSES];
    private int treeCount = 0;
    private int lastLeaf = NONE;
    private int lastVoices = NONE;
    private boolean hasTurned = false;

    public AskTree() {
    }

    public int sort(int mark, int how) {
        if (!isMark(mark) || how < NUMBER || how > SORT || cases.size > 0 || treeCount > 0) {
            return NONE;
        }
        int before = cases.kinds[mark];
        cases.kinds[mark] = how;
        return before;
    }

    public int add(int cls, int a, int b, int c, int d) {
        if (!isClass(cls) || !readTold(a, b, c, d)) {
            return NONE;
        }
        if (cases.size >= MOST_CASES) {
            return FULL;
        }
        cases.append(cls, told);
        return cases.size - 1;
    }

    public int drop(int i) {
        if (!isCase(i)) {
            return NONE;
        }
        cases.takeOut(i);
        return cases.size;
    }

    public int mark(int i, int mark) {
        return isCase(i) && isMark(mark) ? cases.marks[i * MARKS + mark] : REFUSED;
    }

    public int cls(int i) {
        return isCase(i) ? cases.classes[i] : NONE;
    }

    public int grow(int depth, int least) {
        if (!canGrow(depth, least)) {
            return NONE;
        }
        if (treeCount >= MOST_TREES) {
            return FULL;
        }
        rows.loadAll();
        grower.growInto(placeFor(treeCount), depth, least);
        treeCount++;
        return treeCount - 1;
    }

    public int best(int depth) {
        if (depth < 0 || depth > MOST_BEST_DEPTH) {
            return NONE;
        }
        if (cases.size > MOST_BEST_CASES) {
            return MANY;
        }
        if (cases.haveGaps()) {
            return GAPS;
        }
        if (treeCount >= MOST_TREES) {
            return FULL;
        }
        rows.loadAll();
        finder.findInto(placeFor(treeCount), depth);
        treeCount++;
        return treeCount - 1;
    }

    public int cut(int tree, int p, int q) {
        Tree from = treeAt(tree);
        if (from == null || p < 0 || p > MOST_PRICE || q < 1 || q > MOST_PRICE) {
            return NONE;
        }
        if (treeCount >= MOST_TREES) {
            return FULL;
        }
        pruner.cutInto(placeFor(treeCount), from, p, q);
        treeCount++;
        return treeCount - 1;
    }

    public int price(int tree, int what) {
        Tree of = treeAt(tree);
        if (of == null || what < 0 || what > 1 || of.size <= 1) {
            return NONE;
        }
        pruner.findPrice(of);
        return what == 0 ? pruner.upper : pruner.lower;
    }

    public int folds(int k, int depth, int least) {
        if (k < 2 || k > MOST_FOLDS || !canGrow(depth, least)) {
            return NONE;
        }
        int wrong = 0;
        for (int fold = 0; fold < k; fold++) {
            Tree spare = placeFor(MOST_TREES);
            rows.loadWithout(fold, k);
            grower.growInto(spare, depth, least);
            for (int i = fold; i < cases.size; i += k) {
                wrong += missed(spare, i);
            }
        }
        return wrong;
    }

    public int remove() {
        if (treeCount == 0) {
            return NONE;
        }
        treeCount--;
        return treeCount;
    }

    public int tree(int tree, int what) {
        Tree of = treeAt(tree);
        if (of == null) {
            return NONE;
        }
        switch (what) {
            case 0: return of.size;
            case 1: return of.leaves();
            case 2: return of.deepest();
            case 3: return of.allMisses();
            case 4: return of.total(0);
            case 5: return missesNow(of);
            default: return NONE;
        }
    }

    public int node(int tree, int node, int what) {
        Tree of = treeAt(tree);
        if (of == null || !of.has(node)) {
            return NONE;
        }
        boolean isLeaf = of.isLeaf(node);
        switch (what) {
            case 0: return of.asked[node];
            case 1: return of.values[node];
            case 2: return isLeaf ? NONE : node + 1;
            case 3: return isLeaf ? NONE : of.below[node];
            case 4: return of.verdict(node);
            case 5: return of.total(node);
            case 6: return of.misses(node);
            case 7: return of.above[node];
            case 8: return of.ways[node];
            default: return NONE;
        }
    }

    public int share(int tree, int node, int cls) {
        Tree of = treeAt(tree);
        if (of == null || !of.has(node) || !isClass(cls)) {
            return NONE;
        }
        return of.shares[node * CLASSES + cls];
    }

    public int say(int tree, int a, int b, int c, int d) {
        Tree by = treeAt(tree);
        if (by == null || !readTold(a, b, c, d)) {
            return NONE;
        }
        lastLeaf = by.leafFor(told, 0, cases.kinds);
        return by.verdict(lastLeaf);
    }

    public int said() {
        return lastLeaf;
    }

    public int vote(int a, int b, int c, int d) {
        if (treeCount == 0 || !readTold(a, b, c, d)) {
            return NONE;
        }
        clear(ballots);
        for (int t = 0; t < treeCount; t++) {
            Tree by = treeAt(t);
            if (by != null) {
                ballots[by.verdict(by.leafFor(told, 0, cases.kinds))]++;
            }
        }
        int winner = firstGreatest(ballots, 0);
        lastVoices = ballots[winner];
        return winner;
    }

    public int voices() {
        return lastVoices;
    }

    public int rule(int tree, int leaf, int mark, int what) {
        Tree of = treeAt(tree);
        if (of == null || !of.has(leaf) || !of.isLeaf(leaf) || !isMark(mark) || what < 0 || what > 1) {
            return REFUSED;
        }
        rules.readFor(of, leaf);
        return what == 0 ? rules.first(mark) : rules.second(mark);
    }

    public int near(int tree, int a, int b, int c, int d) {
        Tree of = treeAt(tree);
        if (of == null || !readTold(a, b, c, d) || toldHasGap()) {
            return NONE;
        }
        int leaf = nearestOtherLeaf(of);
        if (leaf < 0) {
            return 0;
        }
        rules.readFor(of, leaf);
        rules.turnInto(turnedMarks, told);
        hasTurned = true;
        return rules.offCount(told);
    }

    public int turned(int mark) {
        return isMark(mark) && hasTurned ? turnedMarks[mark] : REFUSED;
    }

    public int count(int what) {
        switch (what) {
            case 0: return cases.size;
            case 1: return treeCount;
            default: return NONE;
        }
    }

    private boolean isCase(int i) {
        return i >= 0 && i < cases.size;
    }

    private static boolean isMark(int mark) {
        return mark >= 0 && mark < MARKS;
    }

    private static boolean isClass(int cls) {
        return cls >= 0 && cls < CLASSES;
    }

    private static boolean canGrow(int depth, int least) {
        return depth >= 0 && depth <= MOST_DEPTH && least >= 1 && least <= MOST_LEAST;
    }

    private Tree treeAt(int number) {
        return number >= 0 && number < treeCount ? trees[number] : null;
    }

    /** A tree without nodes: a place's tree is made once and emptied, so that no call takes more room. */
    private Tree placeFor(int place) {
        Tree there = trees[place];
        if (there == null) {
            there = new Tree();
            trees[place] = there;
        }
        there.size = 0;
        return there;
    }

    /** Unpacks the marks of a call; false if one is neither a number as said nor a gap. */
    private boolean readTold(int a, int b, int c, int d) {
        readPair(0, a);
        readPair(2, b);
        readPair(4, c);
        readPair(6, d);
        for (int m = 0; m < MARKS; m++) {
            boolean isNumber = told[m] >= LOWEST && told[m] <= HIGHEST;
            if (!isNumber && told[m] != GAP) {
                return false;
            }
        }
        return true;
    }

    private void readPair(int at, int pair) {
        told[at] = pair >> 16;
        told[at + 1] = (pair << 16) >> 16;
    }

    private boolean toldHasGap() {
        for (int m = 0; m < MARKS; m++) {
            if (told[m] == GAP) {
                return true;
            }
        }
        return false;
    }

    /** 1 if the tree tells another class of the case than it has, else 0. */
    private int missed(Tree by, int i) {
        int leaf = by.leafFor(cases.marks, i * MARKS, cases.kinds);
        return by.verdict(leaf) == cases.classes[i] ? 0 : 1;
    }

    private int missesNow(Tree by) {
        int wrong = 0;
        for (int i = 0; i < cases.size; i++) {
            wrong += missed(by, i);
        }
        return wrong;
    }

    /** The leaf of another verdict whose rules the told marks can follow most easily, or -1. */
    private int nearestOtherLeaf(Tree of) {
        int verdict = of.verdict(of.leafFor(told, 0, cases.kinds));
        int nearest = -1, fewest = 0, shortest = 0;
        for (int leaf = 0; leaf < of.size; leaf++) {
            if (!of.isLeaf(leaf) || of.verdict(leaf) == verdict) {
                continue;
            }
            rules.readFor(of, leaf);
            if (!rules.canAllFollow()) {
                continue;
            }
            int off = rules.offCount(told);
            int way = rules.wayTo(told);
            if (nearest < 0 || off < fewest || off == fewest && way < shortest) {
                nearest = leaf;
                fewest = off;
                shortest = way;
            }
        }
        return nearest;
    }

    /** Which of the four numbers from a place on is the greatest: of several the first. */
    private static int firstGreatest(int[] numbers, int from) {
        int greatest = 0;
        for (int c = 1; c < CLASSES; c++) {
            if (numbers[from + c] > numbers[from + greatest]) {
                greatest = c;
            }
        }
        return greatest;
    }

    private static boolean isYes(int kind, int v, int way, int x) {
        if (x == GAP) {
            return way == YES;
        }
        return kind == SORT ? x == v : x < v;
    }

    private static void clear(int[] counts) {
        for (int c = 0; c < CLASSES; c++) {
            counts[c] = 0;
        }
    }

    /** The told cases, and for each mark the order of the cases by it, gaps first. */
    private static final class Cases {
        final int[] kinds = new int[MARKS];
        final int[] classes = new int[MOST_CASES];
        final int[] marks = new int[MOST_CASES * MARKS];
        final int[] order = new int[MARKS * MOST_CASES];
        int size = 0;

        void append(int itsClass, int[] itsMarks) {
            if (size >= MOST_CASES) {
                return;
            }
            classes[size] = itsClass;
            for (int m = 0; m < MARKS; m++) {
                marks[size * MARKS + m] = itsMarks[m];
                putInOrder(m, itsMarks[m]);
            }
            size++;
        }

        private void putInOrder(int m, int x) {
            int start = m * MOST_CASES;
            int place = start + size;
            while (place > start && marks[order[place - 1] * MARKS + m] > x) {
                place--;
            }
            System.arraycopy(order, place, order, place + 1, start + size - place);
            order[place] = size;
        }

        void takeOut(int i) {
            int behind = size - i - 1;
            if (i < 0 || behind < 0) {
                return;
            }
            for (int m = 0; m < MARKS; m++) {
                takeOutOfOrder(m * MOST_CASES, i);
            }
            System.arraycopy(classes, i + 1, classes, i, behind);
            System.arraycopy(marks, (i + 1) * MARKS, marks, i * MARKS, behind * MARKS);
            size--;
        }

        private void takeOutOfOrder(int start, int i) {
            int kept = start;
            for (int p = start; p < start + size; p++) {
                int other = order[p];
                if (other != i) {
                    order[kept] = other > i ? other - 1 : other;
                    kept++;
                }
            }
        }

        boolean haveGaps() {
            for (int m = 0; m < MARKS; m++) {
                if (size > 0 && marks[order[m * MOST_CASES] * MARKS + m] == GAP) {
                    return true;
                }
            }
            return false;
        }
    }

    /** The nodes of a tree, in their order: the node below YES is always the next one. */
    private static final class Tree {
        final int[] asked = new int[MOST_NODES];
        final int[] values = new int[MOST_NODES];
        final int[] below = new int[MOST_NODES];
        final int[] ways = new int[MOST_NODES];
        final int[] above = new int[MOST_NODES];
        final int[] shares = new int[MOST_NODES * CLASSES];
        int size = 0;

        boolean has(int k) {
            return k >= 0 && k < size;
        }

        /** Whether no question leads on: the mark and both nodes below are looked at here, before any walk uses them. */
        boolean isLeaf(int k) {
            return !has(k) || !isMark(asked[k]) || !has(k + 1) || !has(below[k]);
        }

        /** A new leaf behind all nodes, with the four shares from a place on: its number, -1 if none fits. */
        int open(int up, int[] counts, int from) {
            if (size >= MOST_NODES) {
                return -1;
            }
            int k = size;
            asked[k] = LEAF;
            values[k] = 0;
            below[k] = -1;
            ways[k] = NO;
            above[k] = up;
            System.arraycopy(counts, from, shares, k * CLASSES, CLASSES);
            size++;
            return k;
        }

        void ask(int k, int mark, int v, int way) {
            asked[k] = mark;
            values[k] = v;
            ways[k] = way;
        }

        int total(int k) {
            int from = k * CLASSES;
            return shares[from] + shares[from + 1] + shares[from + 2] + shares[from + 3];
        }

        int verdict(int k) {
            return firstGreatest(shares, k * CLASSES);
        }

        int misses(int k) {
            return total(k) - shares[k * CLASSES + verdict(k)];
        }

        int leaves() {
            // each question has two nodes below it, so leaves are one more than questions
            return (size + 1) / 2;
        }

        int deepest() {
            int most = 0;
            for (int k = 0; k < size; k++) {
                most = Math.max(most, above[k]);
            }
            return most;
        }

        int allMisses() {
            int wrong = 0;
            for (int k = 0; k < size; k++) {
                if (isLeaf(k)) {
                    wrong += misses(k);
                }
            }
            return wrong;
        }

        /** The leaf to which the questions lead the eight marks from a place on. */
        int leafFor(int[] marks, int from, int[] kinds) {
            int k = 0;
            for (int step = 0; step < MOST_DEPTH && !isLeaf(k); step++) {
                int mark = asked[k];
                boolean yes = isYes(kinds[mark], values[k], ways[k], marks[from + mark]);
                k = yes ? k + 1 : below[k];
            }
            return k;
        }
    }

    /** The cases that a tree is made of: for each mark a row by its order, a node's cases side by side. */
    private static final class Rows {
        final int[] row = new int[MARKS * MOST_CASES];
        final int[] sides = new int[MOST_CASES];
        private final int[] kept = new int[MOST_CASES];
        private final Cases cases;
        int size = 0;

        Rows(Cases cases) {
            this.cases = cases;
        }

        void loadAll() {
            System.arraycopy(cases.order, 0, row, 0, row.length);
            size = cases.size;
        }

        void loadWithout(int fold, int k) {
            size = 0;
            for (int m = 0; m < MARKS && k > 0; m++) {
                int start = m * MOST_CASES;
                int end = start;
                for (int p = start; p < start + cases.size; p++) {
                    if (cases.order[p] % k != fold) {
                        row[end] = cases.order[p];
                        end++;
                    }
                }
                size = end - start;
            }
        }

        int caseAt(int m, int p) {
            return row[m * MOST_CASES + p];
        }

        int markAt(int m, int p) {
            return cases.marks[row[m * MOST_CASES + p] * MARKS + m];
        }

        /** Whether a node's cases all have the same mark, or gap: then no question parts them. */
        boolean isSame(int m, int lo, int hi) {
            return hi <= lo || markAt(m, lo) == markAt(m, hi - 1);
        }

        void tally(int lo, int hi, int[] counts) {
            clear(counts);
            for (int p = lo; p < hi; p++) {
                counts[cases.classes[caseAt(0, p)]]++;
            }
        }

        void setSides(int m, int lo, int hi, int side) {
            for (int p = lo; p < hi; p++) {
                sides[caseAt(m, p)] = side;
            }
        }

        /** Brings a node's YES cases to the front of each row, keeping the order: where NO begins. */
        int part(int lo, int hi, int mark, int v, int way) {
            int kind = cases.kinds[mark];
            for (int p = lo; p < hi; p++) {
                int i = caseAt(mark, p);
                sides[i] = isYes(kind, v, way, cases.marks[i * MARKS + mark]) ? YES : NO;
            }
            int middle = lo;
            for (int m = 0; m < MARKS; m++) {
                middle = lo + partRow(m * MOST_CASES + lo, m * MOST_CASES + hi);
            }
            return middle;
        }

        private int partRow(int start, int end) {
            int front = start;
            int back = 0;
            for (int p = start; p < end; p++) {
                int i = row[p];
                if (sides[i] == YES) {
                    row[front] = i;
                    front++;
                } else {
                    kept[back] = i;
                    back++;
                }
            }
            System.arraycopy(kept, 0, row, front, back);
            return front - start;
        }
    }

    /** Grows a tree by the greatest gain. */
    private static final class Grower {
        private final Cases cases;
        private final Rows rows;
        private final int[] all = new int[CLASSES];
        private final int[] gaps = new int[CLASSES];
        private final int[] yes = new int[CLASSES];
        private int depth, least;
        private int mark, value, way;
        /** The gain of the question found, as a fraction, but for the node's own part of it. */
        private long gainUpper, gainLower;

        Grower(Cases cases, Rows rows) {
            this.cases = cases;
            this.rows = rows;
        }

        void growInto(Tree tree, int toDepth, int leastCount) {
            depth = Math.min(toDepth, MOST_DEPTH);
            least = leastCount;
            branch(tree, 0, rows.size, 0);
        }

        private int branch(Tree tree, int lo, int hi, int above) {
            rows.tally(lo, hi, all);
            int me = tree.open(above, all, 0);
            if (me < 0 || above >= depth || all[firstGreatest(all, 0)] == hi - lo || !seek(lo, hi)) {
                return me;
            }
            tree.ask(me, mark, value, way);
            int middle = rows.part(lo, hi, mark, value, way);
            branch(tree, lo, middle, above + 1);
            tree.below[me] = branch(tree, middle, hi, above + 1);
            return me;
        }

        private boolean seek(int lo, int hi) {
            mark = LEAF;
            for (int m = 0; m < MARKS; m++) {
                if (!rows.isSame(m, lo, hi)) {
                    seekIn(m, readGaps(m, lo, hi), hi);
                }
            }
            return mark != LEAF;
        }

        /** Counts the gaps, which stand first: where the cases without one begin. */
        private int readGaps(int m, int lo, int hi) {
            clear(gaps);
            int p = lo;
            while (p < hi && rows.markAt(m, p) == GAP) {
                gaps[cases.classes[rows.caseAt(m, p)]]++;
                p++;
            }
            return p;
        }

        private void seekIn(int m, int first, int hi) {
            boolean isSort = cases.kinds[m] == SORT;
            int known = hi - first;
            int begin = first;
            clear(yes);
            for (int p = first; p < hi; p++) {
                int x = rows.markAt(m, p);
                if (p == first || rows.markAt(m, p - 1) != x) {
                    begin = p;
                    if (isSort) {
                        clear(yes);
                    } else {
                        weigh(m, x, p - first, known);
                    }
                }
                yes[cases.classes[rows.caseAt(m, p)]]++;
                if (isSort && (p + 1 == hi || rows.markAt(m, p + 1) != x)) {
                    weigh(m, x, p + 1 - begin, known);
                }
            }
        }

        /** Takes the question if it fits and gains more than the one found before it. */
        private void weigh(int m, int v, int yesKnown, int known) {
            int itsWay = yesKnown >= known - yesKnown ? YES : NO;
            int countYes = 0, countNo = 0, squaresYes = 0, squaresNo = 0, squares = 0;
            for (int c = 0; c < CLASSES; c++) {
                int toYes = itsWay == YES ? yes[c] + gaps[c] : yes[c];
                int toNo = all[c] - toYes;
                countYes += toYes;
                countNo += toNo;
                squaresYes += toYes * toYes;
                squaresNo += toNo * toNo;
                squares += all[c] * all[c];
            }
            if (countYes < least || countNo < least) {
                return;
            }
            long lower = (long) countYes * countNo;
            long upper = (long) squaresYes * countNo + (long) squaresNo * countYes;
            boolean gains = upper * (countYes + countNo) > squares * lower;
            if (gains && (mark == LEAF || upper * gainLower > gainUpper * lower)) {
                mark = m;
                value = v;
                way = itsWay;
                gainUpper = upper;
                gainLower = lower;
            }
        }
    }

    /** Finds the best tree of a depth, for cases without gaps. */
    private static final class Finder {
        private final Cases cases;
        private final Rows rows;
        private final int[] all = new int[CLASSES];
        private final int[] yes = new int[CLASSES];
        /** The best of one question at most, of the cases of one side; a leaf asks LEAF. */
        private int oneMark, oneValue, oneWrong, oneTotal;
        /** The best of two questions at most, one below the other. */
        private int topMark, topValue, topWrong, topAsks;

        Finder(Cases cases, Rows rows) {
            this.cases = cases;
            this.rows = rows;
        }

        void findInto(Tree tree, int depth) {
            build(tree, 0, rows.size, 0, depth);
        }

        /** Puts the best tree of the cases from lo to hi, with at most left questions down, behind the nodes. */
        private int build(Tree tree, int lo, int hi, int above, int left) {
            rows.tally(lo, hi, all);
            int me = tree.open(above, all, 0);
            if (me < 0 || above >= MOST_BEST_DEPTH || left <= 0) {
                return me;
            }
            takeOne(lo, hi);
            // what one question does without a fault no second one betters
            boolean seeksOn = left > 1 && topWrong > 0;
            for (int m = 0; m < MARKS && seeksOn; m++) {
                seekTop(m, lo, hi);
            }
            int mark = topMark;
            int value = topValue;
            if (mark == LEAF) {
                return me;
            }
            int middle = rows.part(lo, hi, mark, value, NO);
            tree.ask(me, mark, value, middle - lo >= hi - middle ? YES : NO);
            build(tree, lo, middle, above + 1, left - 1);
            tree.below[me] = build(tree, middle, hi, above + 1, left - 1);
            return me;
        }

        /** The best of one question at most, for those of two to be held against. */
        private void takeOne(int lo, int hi) {
            rows.setSides(0, lo, hi, NO);
            seekOne(lo, hi, NO);
            topMark = oneMark;
            topValue = oneValue;
            topWrong = oneWrong;
            topAsks = oneMark == LEAF ? 0 : 1;
        }

        private void seekTop(int m, int lo, int hi) {
            if (rows.isSame(m, lo, hi)) {
                return;
            }
            boolean isSort = cases.kinds[m] == SORT;
            int begin = lo;
            rows.setSides(m, lo, hi, NO);
            for (int p = lo; p < hi; p++) {
                int x = rows.markAt(m, p);
                if (p > lo && rows.markAt(m, p - 1) != x) {
                    if (isSort) {
                        rows.setSides(m, begin, p, NO);
                    } else {
                        judgeTop(m, x, lo, hi);
                    }
                    begin = p;
                }
                rows.sides[rows.caseAt(m, p)] = YES;
                if (isSort && (p + 1 == hi || rows.markAt(m, p + 1) != x)) {
                    judgeTop(m, x, lo, hi);
                }
            }
        }

        private void judgeTop(int m, int v, int lo, int hi) {
            seekOne(lo, hi, YES);
            int wrong = oneWrong;
            int asks = oneMark == LEAF ? 1 : 2;
            if (wrong > topWrong) {
                return;
            }
            seekOne(lo, hi, NO);
            wrong += oneWrong;
            asks += oneMark == LEAF ? 0 : 1;
            if (wrong < topWrong || wrong == topWrong && asks < topAsks) {
                topMark = m;
                topValue = v;
                topWrong = wrong;
                topAsks = asks;
            }
        }

        /** The best of one question at most for those of a node's cases that are on a side. */
        private void seekOne(int lo, int hi, int side) {
            clear(all);
            oneTotal = 0;
            for (int p = lo; p < hi; p++) {
                int i = rows.caseAt(0, p);
                if (rows.sides[i] == side) {
                    all[cases.classes[i]]++;
                    oneTotal++;
                }
            }
            oneMark = LEAF;
            oneValue = 0;
            oneWrong = oneTotal - all[firstGreatest(all, 0)];
            for (int m = 0; m < MARKS && oneWrong > 0; m++) {
                if (!rows.isSame(m, lo, hi)) {
                    seekOneIn(m, lo, hi, side);
                }
            }
        }

        private void seekOneIn(int m, int lo, int hi, int side) {
            boolean isSort = cases.kinds[m] == SORT;
            boolean any = false;
            int last = 0;
            clear(yes);
            for (int p = lo; p < hi; p++) {
                int i = rows.caseAt(m, p);
                if (rows.sides[i] != side) {
                    continue;
                }
                int x = cases.marks[i * MARKS + m];
                if (any && x != last) {
                    judgeOne(m, isSort ? last : x);
                    if (isSort) {
                        clear(yes);
                    }
                }
                yes[cases.classes[i]]++;
                any = true;
                last = x;
            }
            if (any && isSort) {
                judgeOne(m, last);
            }
        }

        /** A question without a case on one side is as wrong as the leaf, so it is never taken. */
        private void judgeOne(int m, int v) {
            int mostYes = 0, mostNo = 0;
            for (int c = 0; c < CLASSES; c++) {
                int onYes = yes[c];
                int onNo = all[c] - onYes;
                mostYes = onYes > mostYes ? onYes : mostYes;
                mostNo = onNo > mostNo ? onNo : mostNo;
            }
            int wrong = oneTotal - mostYes - mostNo;
            if (wrong < oneWrong) {
                oneMark = m;
                oneValue = v;
                oneWrong = wrong;
            }
        }
    }

    /** Cuts a tree back at a price, and tells the price at which it begins to be cut. */
    private static final class Pruner {
        private final int[] costs = new int[MOST_NODES];
        private int leafPrice, wrongPrice;
        int upper = 0, lower = 1;

        void cutInto(Tree into, Tree from, int p, int q) {
            leafPrice = p;
            wrongPrice = q;
            // what stands below a node has greater numbers, so its costs are known first
            for (int k = from.size - 1; k >= 0; k--) {
                costs[k] = leafCost(from, k);
                if (!from.isLeaf(k)) {
                    costs[k] = Math.min(costs[k], costs[k + 1] + costs[from.below[k]]);
                }
            }
            copy(into, from, 0, 0);
        }

        private int leafCost(Tree of, int k) {
            return wrongPrice * of.misses(k) + leafPrice;
        }

        private int copy(Tree into, Tree from, int k, int above) {
            int me = into.open(above, from.shares, k * CLASSES);
            boolean becomesLeaf = from.isLeaf(k) || costs[k] == leafCost(from, k);
            if (me < 0 || above >= MOST_DEPTH || becomesLeaf) {
                return me;
            }
            into.ask(me, from.asked[k], from.values[k], from.ways[k]);
            copy(into, from, k + 1, above + 1);
            into.below[me] = copy(into, from, from.below[k], above + 1);
            return me;
        }

        /** The least price of a node: what it saves by being asked, shared among the leaves it adds. */
        void findPrice(Tree of) {
            upper = 0;
            lower = 0;
            for (int k = 0; k < of.size; k++) {
                if (!of.isLeaf(k)) {
                    weighNode(of, k);
                }
            }
            int common = commonDivisor(upper, lower);
            if (common > 0) {
                upper /= common;
                lower /= common;
            }
        }

        private void weighNode(Tree of, int k) {
            int saved = of.misses(k);
            int added = -1;
            for (int j = k + 1; j < of.size && of.above[j] > of.above[k]; j++) {
                if (of.isLeaf(j)) {
                    saved -= of.misses(j);
                    added++;
                }
            }
            if (lower == 0 || saved * lower < upper * added) {
                upper = saved;
                lower = added;
            }
        }

        private static int commonDivisor(int a, int b) {
            // the rest at least halves every two steps, so 64 steps are plenty for an int
            for (int step = 0; step < 64 && b != 0; step++) {
                int rest = a % b;
                a = b;
                b = rest;
            }
            return a;
        }
    }

    /** What the questions above a leaf ask of each mark. */
    private static final class Rules {
        private final int[] kinds;
        private final int[] least = new int[MARKS];
        private final int[] greatest = new int[MARKS];
        private final int[] must = new int[MARKS];
        private final int[] barredCount = new int[MARKS];
        private final int[] barred = new int[MARKS * MOST_DEPTH];
        private final boolean[] clashes = new boolean[MARKS];

        Rules(int[] kinds) {
            this.kinds = kinds;
        }

        void readFor(Tree of, int leaf) {
            for (int m = 0; m < MARKS; m++) {
                least[m] = LOWEST;
                greatest[m] = HIGHEST;
                must[m] = NO_MUST;
                barredCount[m] = 0;
                clashes[m] = false;
            }
            int k = 0;
            for (int step = 0; step < MOST_DEPTH && k != leaf && !of.isLeaf(k); step++) {
                // numbers below YES are all less than the number of the node below NO
                boolean yes = leaf < of.below[k];
                note(of.asked[k], of.values[k], yes);
                k = yes ? k + 1 : of.below[k];
            }
        }

        private void note(int m, int v, boolean yes) {
            if (kinds[m] == SORT) {
                noteSort(m, v, yes);
            } else if (yes) {
                greatest[m] = Math.min(greatest[m], v - 1);
            } else {
                least[m] = Math.max(least[m], v);
            }
        }

        private void noteSort(int m, int v, boolean yes) {
            if (yes) {
                clashes[m] = clashes[m] || isBarred(m, v) || must[m] != NO_MUST && must[m] != v;
                must[m] = v;
            } else if (!isBarred(m, v) && barredCount[m] < MOST_DEPTH) {
                clashes[m] = clashes[m] || must[m] == v;
                barred[m * MOST_DEPTH + barredCount[m]] = v;
                barredCount[m]++;
            }
        }

        private boolean isBarred(int m, int v) {
            for (int j = 0; j < barredCount[m]; j++) {
                if (barred[m * MOST_DEPTH + j] == v) {
                    return true;
                }
            }
            return false;
        }

        private boolean canFollow(int m) {
            return kinds[m] == SORT ? !clashes[m] : least[m] <= greatest[m];
        }

        boolean canAllFollow() {
            for (int m = 0; m < MARKS; m++) {
                if (!canFollow(m)) {
                    return false;
                }
            }
            return true;
        }

        int first(int m) {
            if (!canFollow(m)) {
                return IMPOSSIBLE;
            }
            return kinds[m] == SORT ? must[m] : least[m];
        }

        int second(int m) {
            if (!canFollow(m)) {
                return IMPOSSIBLE;
            }
            if (kinds[m] == NUMBER) {
                return greatest[m];
            }
            return must[m] == NO_MUST ? barredCount[m] : 0;
        }

        /** The number that a mark would be: itself if it follows, else the nearest, or first, that does. */
        private int turn(int m, int x) {
            if (kinds[m] == NUMBER) {
                return Math.min(Math.max(x, least[m]), greatest[m]);
            }
            if (must[m] != NO_MUST) {
                return must[m];
            }
            if (!isBarred(m, x)) {
                return x;
            }
            int free = 0;
            // one number more than can be barred: one of them is free
            while (free < MOST_DEPTH && isBarred(m, free)) {
                free++;
            }
            return free;
        }

        void turnInto(int[] turned, int[] marks) {
            for (int m = 0; m < MARKS; m++) {
                turned[m] = turn(m, marks[m]);
            }
        }

        int offCount(int[] marks) {
            int off = 0;
            for (int m = 0; m < MARKS; m++) {
                if (turn(m, marks[m]) != marks[m]) {
                    off++;
                }
            }
            return off;
        }

        /** How far all numbers together must be moved. */
        int wayTo(int[] marks) {
            int way = 0;
            for (int m = 0; m < MARKS; m++) {
                if (kinds[m] == NUMBER) {
                    way += Math.abs(turn(m, marks[m]) - marks[m]);
                }
            }
            return way;
        }
    }
}
