import java.util.Arrays;

/** Two machines of gates that get the same words, and the search for the least program that tells them apart. */
public final class BoundedMachines {

    public static final int NONE = -1;

    private static final int MOST_DEPTH = 20000;

    private static final int DIFFERS = 0;
    private static final int GOES_ON = 1;
    private static final int ALL_CLEAR = 2;

    private final Net net;
    private final Hunt hunt;
    private final HandRun hand;

    public BoundedMachines(int bits) {
        // bits - 1 may wrap: 2 to the power 32 is a multiple of 4, so the rest stays the same
        net = new Net(1 + Math.floorMod(bits - 1, 4));
        hunt = new Hunt(net);
        hand = new HandRun(net);
    }

    public int state(int side, boolean first) throws IllegalArgumentException, UnsupportedOperationException {
        if (side != 0 && side != 1) {
            throw new IllegalArgumentException("a side is 0 or 1");
        }
        if (net.hasAllStates() || net.hasAllNodes()) {
            throw new UnsupportedOperationException("no room for another state");
        }
        int node = net.addState(side, first);
        startAnew();
        return node;
    }

    public int gate(int op, int a, int b) throws IllegalArgumentException, UnsupportedOperationException {
        if (!net.takesGate(op, a, b)) {
            throw new IllegalArgumentException("no such gate, or no such nodes");
        }
        if (net.hasAllNodes()) {
            throw new UnsupportedOperationException("no room for another node");
        }
        int node = net.addGate(op, a, b);
        startAnew();
        return node;
    }

    public int next(int state, int node) throws IllegalArgumentException {
        if (!net.isState(state) || !net.isNode(node)) {
            throw new IllegalArgumentException("no such state, or no such node");
        }
        int before = net.changeNext(state, node);
        startAnew();
        return before;
    }

    public int compare(int a, int b) throws IllegalArgumentException, UnsupportedOperationException {
        if (!net.isNode(a) || !net.isNode(b)) {
            throw new IllegalArgumentException("no such nodes");
        }
        if (net.hasAllPairs()) {
            throw new UnsupportedOperationException("no room for another pair");
        }
        net.addPair(a, b);
        startAnew();
        return net.pairCount;
    }

    public int search(int depth) throws IllegalArgumentException {
        if (depth < 1 || depth > MOST_DEPTH) {
            throw new IllegalArgumentException("a depth is 1 to 20000");
        }
        hunt.goOn(depth);
        if (hunt.programLength != NONE) {
            return DIFFERS;
        }
        return hunt.hasOpenLevel() ? GOES_ON : ALL_CLEAR;
    }

    public int length() {
        return hunt.programLength;
    }

    public int word(int k) throws IndexOutOfBoundsException {
        if (k < 0 || k >= hunt.programLength) {
            throw new IndexOutOfBoundsException("no such word");
        }
        return hunt.programWord(k);
    }

    public int clear() {
        return hunt.clearLevels;
    }

    public int seen() {
        return hunt.rowCount;
    }

    public int level(int k) throws IndexOutOfBoundsException {
        if (k < 0 || k > hunt.clearLevels) {
            throw new IndexOutOfBoundsException("no such level");
        }
        return hunt.rowsOfLevel(k);
    }

    public void begin() {
        hand.restart();
    }

    public boolean cycle(int word) {
        return hand.step(word);
    }

    public boolean truth(int node) throws IndexOutOfBoundsException {
        if (!net.isNode(node)) {
            throw new IndexOutOfBoundsException("no such node");
        }
        return hand.truthOf(node);
    }

    public int replay() {
        if (hunt.programLength == NONE) {
            return NONE;
        }
        hand.restart();
        int firstDiffering = NONE;
        for (int k = 0; k < hunt.programLength; k++) {
            boolean differs = hand.step(hunt.programWord(k));
            if (differs && firstDiffering == NONE) {
                firstDiffering = k;
            }
        }
        return firstDiffering;
    }

    public int count(int what) {
        switch (what) {
            case 0:
                return net.wordBits;
            case 1:
                return net.nodeCount;
            case 2:
                return net.stateCount - net.statesOfSideOne;
            case 3:
                return net.statesOfSideOne;
            case 4:
                return net.gateCount();
            case 5:
                return net.pairCount;
            case 6:
                return hand.cycles;
            case 7:
                return hand.firstPair;
            default:
                return NONE;
        }
    }

    private void startAnew() {
        hunt.forget();
        hand.restart();
    }

    /**
     * The nodes and pairs as they were told. A node's truths under all words are worked out at once, as its LANES:
     * bit w of them is its truth under word w.
     */
    private static final class Net {

        private static final int MOST_NODES = 100;
        private static final int MOST_STATES = 14;
        private static final int MOST_PAIRS = 16;

        private static final int AND = 0;
        private static final int OR = 1;
        private static final int EXCLUSIVE_OR = 2;
        private static final int NOT = 3;
        private static final int NO = 4;
        private static final int YES = 5;
        private static final int WORD_BIT = 6;
        private static final int STATE = 7;

        private static final int NO_LANES = 0;
        private static final int ALL_LANES = -1;

        // lane w of word bit k is bit k of w
        private static final int[] LANES_OF_WORD_BITS = {0xAAAA, 0xCCCC, 0xF0F0, 0xFF00};

        private final int wordBits;
        private final int wordCount;
        private final int[] kinds = new int[MOST_NODES];
        // of a gate the nodes it wants, of a word bit and of a state (left alone) its number among its like
        private final int[] lefts = new int[MOST_NODES];
        private final int[] rights = new int[MOST_NODES];
        private final int[] nexts = new int[MOST_STATES];
        private final int[] pairLefts = new int[MOST_PAIRS];
        private final int[] pairRights = new int[MOST_PAIRS];
        private int nodeCount;
        private int stateCount;
        private int statesOfSideOne;
        private int pairCount;
        // a row of truths: bit s is the truth of state s
        private int firstRow;

        private Net(int wordBits) {
            this.wordBits = wordBits;
            this.wordCount = 1 << wordBits;
            this.nodeCount = wordBits;
            for (int k = 0; k < wordBits; k++) {
                kinds[k] = WORD_BIT;
                lefts[k] = k;
            }
        }

        private boolean hasAllNodes() {
            return nodeCount >= MOST_NODES;
        }

        private boolean hasAllStates() {
            return stateCount >= MOST_STATES;
        }

        private boolean hasAllPairs() {
            return pairCount >= MOST_PAIRS;
        }

        private boolean isNode(int node) {
            return node >= 0 && node < nodeCount;
        }

        private boolean isState(int node) {
            return isNode(node) && kinds[node] == STATE;
        }

        private int gateCount() {
            return nodeCount - wordBits - stateCount;
        }

        private static boolean wantsLeft(int op) {
            return op <= NOT;
        }

        private static boolean wantsRight(int op) {
            return op < NOT;
        }

        private boolean takesGate(int op, int a, int b) {
            if (op < AND || op > YES) {
                return false;
            }
            return (!wantsLeft(op) || isNode(a)) && (!wantsRight(op) || isNode(b));
        }

        private int addState(int side, boolean first) {
            int node = addNode(STATE, stateCount, 0);
            nexts[stateCount] = node;
            if (first) {
                firstRow |= 1 << stateCount;
            }
            statesOfSideOne += side;
            stateCount++;
            return node;
        }

        private int addGate(int op, int a, int b) {
            return addNode(op, wantsLeft(op) ? a : 0, wantsRight(op) ? b : 0);
        }

        private int addNode(int kind, int left, int right) {
            int node = nodeCount;
            kinds[node] = kind;
            lefts[node] = left;
            rights[node] = right;
            nodeCount++;
            return node;
        }

        private void addPair(int a, int b) {
            pairLefts[pairCount] = a;
            pairRights[pairCount] = b;
            pairCount++;
        }

        private int changeNext(int state, int node) {
            int number = lefts[state];
            int before = nexts[number];
            nexts[number] = node;
            return before;
        }

        private static int lanesOfState(int number, int row) {
            return (row >> number & 1) == 0 ? NO_LANES : ALL_LANES;
        }

        private void layAsAtFirst(int[] lanes) {
            for (int node = 0; node < nodeCount; node++) {
                lanes[node] = kinds[node] == STATE ? lanesOfState(lefts[node], firstRow) : NO_LANES;
            }
        }

        private void settle(int row, int[] lanes) {
            for (int node = 0; node < nodeCount; node++) {
                lanes[node] = lanesOf(node, row, lanes);
            }
        }

        private int lanesOf(int node, int row, int[] lanes) {
            int left = lefts[node];
            int right = rights[node];
            switch (kinds[node]) {
                case AND:
                    return lanes[left] & lanes[right];
                case OR:
                    return lanes[left] | lanes[right];
                case EXCLUSIVE_OR:
                    return lanes[left] ^ lanes[right];
                case NOT:
                    return ~lanes[left];
                case NO:
                    return NO_LANES;
                case YES:
                    return ALL_LANES;
                case WORD_BIT:
                    return LANES_OF_WORD_BITS[left];
                default:
                    return lanesOfState(left, row);
            }
        }

        private int rowAfter(int word, int[] lanes) {
            int row = 0;
            for (int s = 0; s < stateCount; s++) {
                row |= (lanes[nexts[s]] >> word & 1) << s;
            }
            return row;
        }

        private int leastDifferingWord(int[] lanes) {
            int differing = NO_LANES;
            for (int p = 0; p < pairCount; p++) {
                differing |= lanes[pairLefts[p]] ^ lanes[pairRights[p]];
            }
            for (int word = 0; word < wordCount; word++) {
                if ((differing >> word & 1) != 0) {
                    return word;
                }
            }
            return NONE;
        }

        private int firstDifferingPair(int word, int[] lanes) {
            for (int p = 0; p < pairCount; p++) {
                int differing = lanes[pairLefts[p]] ^ lanes[pairRights[p]];
                if ((differing >> word & 1) != 0) {
                    return p;
                }
            }
            return NONE;
        }
    }

    /** The search, level by level. Its arrays are made once, for the most states, and used again by every search. */
    private static final class Hunt {

        private static final int BITS_OF_A_WORD = 4;
        private static final int WORD_MASK = 15;
        private static final int MOST_ROWS = 1 << Net.MOST_STATES;

        private final Net net;
        private final int[] lanes = new int[Net.MOST_NODES];
        private final int[] rows = new int[MOST_ROWS];
        // place of the row that a row came of, and the word by which it came (its lowest 4 bits)
        private final int[] origins = new int[MOST_ROWS];
        // level k is rows[levelStarts[k]] up to before rows[levelStarts[k + 1]]; two more than rows, since each row may
        // be a level of its own, behind them is a level without rows, and its end is told too
        private final int[] levelStarts = new int[MOST_ROWS + 2];
        private final int[] program = new int[MOST_ROWS];
        // one bit for each row that there can be
        private final int[] known = new int[MOST_ROWS >> 5];
        private int rowCount;
        private int clearLevels;
        private int programLength = NONE;

        private Hunt(Net net) {
            this.net = net;
        }

        private void forget() {
            rowCount = 0;
            clearLevels = 0;
            programLength = NONE;
        }

        private void goOn(int depth) {
            if (rowCount == 0) {
                start();
            }
            for (int k = clearLevels; k < depth && programLength == NONE && hasOpenLevel(); k++) {
                askLevel();
            }
        }

        private void start() {
            // the other arrays are written before they are read
            Arrays.fill(known, 0);
            keepIfNew(net.firstRow, 0, 0);
            rowCount = 1;
            levelStarts[0] = 0;
            levelStarts[1] = 1;
        }

        private boolean hasOpenLevel() {
            return rowsOfLevel(clearLevels) > 0;
        }

        private int rowsOfLevel(int k) {
            return rowCount == 0 ? 0 : levelStarts[k + 1] - levelStarts[k];
        }

        private void askLevel() {
            int end = rowCount;
            for (int at = levelStarts[clearLevels]; at < rowCount; at++) {
                net.settle(rows[at], lanes);
                int word = net.leastDifferingWord(lanes);
                if (word != NONE) {
                    // rowCount is not moved: what came of this level's rows does not count when it is not clear
                    tellProgram(at, word);
                    return;
                }
                end = gather(at, end);
            }
            clearLevels++;
            rowCount = end;
            levelStarts[clearLevels + 1] = end;
        }

        private int gather(int at, int end) {
            int newEnd = end;
            for (int word = 0; word < net.wordCount; word++) {
                if (keepIfNew(net.rowAfter(word, lanes), newEnd, at << BITS_OF_A_WORD | word)) {
                    newEnd++;
                }
            }
            return newEnd;
        }

        private boolean keepIfNew(int row, int place, int origin) {
            int bit = 1 << (row & 31);
            if ((known[row >> 5] & bit) != 0) {
                return false;
            }
            known[row >> 5] |= bit;
            rows[place] = row;
            origins[place] = origin;
            return true;
        }

        private void tellProgram(int lastPlace, int lastWord) {
            program[clearLevels] = lastWord;
            int at = lastPlace;
            for (int k = clearLevels - 1; k >= 0; k--) {
                program[k] = origins[at] & WORD_MASK;
                at = origins[at] >> BITS_OF_A_WORD;
            }
            programLength = clearLevels + 1;
        }

        private int programWord(int k) {
            return program[k];
        }
    }

    /** The run by hand. */
    private static final class HandRun {

        private final Net net;
        private final int[] lanes = new int[Net.MOST_NODES];
        private int row;
        private int lane;
        private int cycles;
        private int firstPair = NONE;

        private HandRun(Net net) {
            this.net = net;
        }

        private void restart() {
            row = net.firstRow;
            lane = 0;
            cycles = 0;
            firstPair = NONE;
            net.layAsAtFirst(lanes);
        }

        private boolean step(int word) {
            lane = word & (net.wordCount - 1);
            net.settle(row, lanes);
            firstPair = net.firstDifferingPair(lane, lanes);
            row = net.rowAfter(lane, lanes);
            cycles++;
            return firstPair != NONE;
        }

        private boolean truthOf(int node) {
            return (lanes[node] >> lane & 1) != 0;
        }
    }
}
