/** Each promise of the document: ordinary inputs, its edges, and wrong inputs. */
public final class PromiseTests {
    private static final Checks CHECKS = new Checks();
    private static final int[] WRONG_NODES = {-1, Integer.MIN_VALUE, 100, 1000, Integer.MAX_VALUE};

    private PromiseTests() {
    }

    public static void main(String[] args) {
        promise1NewObject();
        promise2State();
        promise2StateRefusals();
        promise2ChangesStartAnew();
        promise2RefusedCallsChangeNothing();
        promise3Gate();
        promise3GateRefusals();
        promise3TruthTables();
        promise4Next();
        promise5Compare();
        promise6SearchAnswers();
        promise6SearchRefusals();
        promise6LongestSearch();
        promise6SearchAnew();
        promises7And8Program();
        promise8LeastOfEquallyShort();
        promises9To11Levels();
        promise11BeforeAnySearch();
        promise12And13Hand();
        promise13LowestBits();
        promise14Truth();
        promise15Replay();
        promise16Count();
        CHECKS.end("PromiseTests");
    }

    private static void promise1NewObject() {
        int[][] bitsAndWant = {{1, 1}, {2, 2}, {3, 3}, {4, 4}, {5, 1}, {0, 4}, {-1, 3}, {-2, 2}, {-3, 1}, {-4, 4},
            {Integer.MAX_VALUE, 3}, {Integer.MIN_VALUE, 4}, {Integer.MIN_VALUE + 1, 1}};
        for (int[] row : bitsAndWant) {
            BoundedMachines x = new BoundedMachines(row[0]);
            String name = "new(" + row[0] + ")";
            CHECKS.due(name + " count(0)", row[1], () -> x.count(0));
            CHECKS.due(name + " count(1)", row[1], () -> x.count(1));
            for (int what = 2; what <= 6; what++) {
                int asked = what;
                CHECKS.due(name + " count(" + what + ")", 0, () -> x.count(asked));
            }
            CHECKS.due(name + " count(7)", -1, () -> x.count(7));
            CHECKS.due(name + " seen", 0, x::seen);
            CHECKS.due(name + " clear", 0, x::clear);
            CHECKS.due(name + " length", -1, x::length);
            CHECKS.due(name + " truth(0)", false, () -> x.truth(0));
            CHECKS.throwsIndex(name + " truth(B)", () -> x.truth(row[1]));
        }
        CHECKS.same("NONE", -1, BoundedMachines.NONE);
    }

    private static void promise2State() {
        BoundedMachines x = new BoundedMachines(2);
        CHECKS.due("state(0, true)", 2, () -> x.state(0, true));
        CHECKS.due("state(1, false)", 3, () -> x.state(1, false));
        CHECKS.due("gate between", 4, () -> x.gate(3, 2, 0));
        CHECKS.due("state after a gate", 5, () -> x.state(1, true));
        CHECKS.due("states of side 0", 1, () -> x.count(2));
        CHECKS.due("states of side 1", 2, () -> x.count(3));
        CHECKS.due("first truth true", true, () -> x.truth(2));
        CHECKS.due("first truth false", false, () -> x.truth(3));
        x.cycle(0);
        x.cycle(0);
        CHECKS.due("a state stays as it is, as long as no next is told", true, () -> x.truth(2));
        CHECKS.due("and so does one that is false", false, () -> x.truth(3));
    }

    private static void promise2StateRefusals() {
        BoundedMachines x = new BoundedMachines(1);
        for (int side : new int[] {-1, 2, Integer.MIN_VALUE, Integer.MAX_VALUE}) {
            CHECKS.throwsArgument("state(" + side + ")", () -> x.state(side, true));
        }
        for (int s = 0; s < 14; s++) {
            int node = 1 + s;
            CHECKS.due("state " + s, node, () -> x.state(node % 2, false));
        }
        CHECKS.throwsUnsupported("a fifteenth state", () -> x.state(0, false));
        CHECKS.throwsArgument("a fifteenth state of no side", () -> x.state(2, false));
        BoundedMachines full = fullOfNodes();
        CHECKS.throwsUnsupported("state as node 101", () -> full.state(1, false));
        CHECKS.throwsArgument("state of no side as node 101", () -> full.state(-1, false));
        CHECKS.due("nodes stay 100", 100, () -> full.count(1));
    }

    private static BoundedMachines fullOfNodes() {
        BoundedMachines x = new BoundedMachines(4);
        for (int node = 4; node < 100; node++) {
            int want = node;
            CHECKS.due("gate " + node, want, () -> x.gate(5, 0, 0));
        }
        return x;
    }

    /** A machine that was searched with success and has run a cycle by hand. */
    private static BoundedMachines searched() {
        BoundedMachines x = Machines.counterAgainstNo(2);
        CHECKS.due("search before a change", 0, () -> x.search(20));
        x.cycle(1);
        x.cycle(1);
        CHECKS.due("cycles before a change", 2, () -> x.count(6));
        return x;
    }

    private static void isAnew(String by, BoundedMachines x) {
        CHECKS.due("length after " + by, -1, x::length);
        CHECKS.due("clear after " + by, 0, x::clear);
        CHECKS.due("seen after " + by, 0, x::seen);
        CHECKS.due("level(0) after " + by, 0, () -> x.level(0));
        CHECKS.throwsIndex("level(1) after " + by, () -> x.level(1));
        CHECKS.throwsIndex("word(0) after " + by, () -> x.word(0));
        CHECKS.due("replay after " + by, -1, x::replay);
        CHECKS.due("cycles after " + by, 0, () -> x.count(6));
        CHECKS.due("pair after " + by, -1, () -> x.count(7));
        for (int node = 0; node < x.count(1); node++) {
            int asked = node;
            CHECKS.due("truth(" + node + ") after " + by, false, () -> x.truth(asked));
        }
    }

    private static void promise2ChangesStartAnew() {
        BoundedMachines byState = searched();
        byState.state(1, false);
        isAnew("state()", byState);
        BoundedMachines byGate = searched();
        byGate.gate(5, 0, 0);
        isAnew("gate()", byGate);
        BoundedMachines byNext = searched();
        byNext.next(1, byNext.next(1, 0));
        isAnew("next()", byNext);
        BoundedMachines byCompare = searched();
        byCompare.compare(0, 0);
        isAnew("compare()", byCompare);
    }

    private static void promise2RefusedCallsChangeNothing() {
        BoundedMachines x = searched();
        CHECKS.throwsArgument("state", () -> x.state(2, true));
        CHECKS.throwsArgument("gate", () -> x.gate(0, 0, 99));
        CHECKS.throwsArgument("next", () -> x.next(0, 0));
        CHECKS.throwsArgument("compare", () -> x.compare(0, 99));
        CHECKS.throwsArgument("search", () -> x.search(0));
        CHECKS.due("length after refusals", 3, x::length);
        CHECKS.due("seen after refusals", 3, x::seen);
        CHECKS.due("cycles after refusals", 2, () -> x.count(6));
        CHECKS.due("truth after refusals", true, () -> x.truth(0));
    }

    private static void promise3Gate() {
        BoundedMachines x = new BoundedMachines(2);
        for (int op = 0; op <= 5; op++) {
            int asked = op;
            CHECKS.due("gate(" + op + ")", 2 + op, () -> x.gate(asked, 0, 1));
        }
        CHECKS.due("gates", 6, () -> x.count(4));
        CHECKS.due("a gate of gates", 8, () -> x.gate(0, 7, 6));
        CHECKS.due("NOT wants one node alone", 9, () -> x.gate(3, 8, -5));
        CHECKS.due("NO wants none", 10, () -> x.gate(4, Integer.MIN_VALUE, 100));
        CHECKS.due("YES wants none", 11, () -> x.gate(5, -1, Integer.MAX_VALUE));
        x.cycle(0);
        CHECKS.due("YES and NO", false, () -> x.truth(8));
        CHECKS.due("NOT of it", true, () -> x.truth(9));
        CHECKS.due("NO", false, () -> x.truth(10));
        CHECKS.due("YES", true, () -> x.truth(11));
    }

    private static void promise3GateRefusals() {
        BoundedMachines x = new BoundedMachines(2);
        for (int op : new int[] {-1, 6, 7, Integer.MIN_VALUE, Integer.MAX_VALUE}) {
            CHECKS.throwsArgument("gate(" + op + ")", () -> x.gate(op, 0, 1));
        }
        for (int op = 0; op <= 2; op++) {
            int asked = op;
            for (int node : new int[] {-1, 2, 99, 100, Integer.MIN_VALUE, Integer.MAX_VALUE}) {
                CHECKS.throwsArgument("gate(" + op + ", " + node + ", 0)", () -> x.gate(asked, node, 0));
                CHECKS.throwsArgument("gate(" + op + ", 0, " + node + ")", () -> x.gate(asked, 0, node));
            }
        }
        CHECKS.throwsArgument("NOT of no node", () -> x.gate(3, 2, 0));
        CHECKS.due("no node came of it", 2, () -> x.count(1));
        BoundedMachines full = fullOfNodes();
        CHECKS.throwsUnsupported("gate as node 101", () -> full.gate(0, 0, 1));
        CHECKS.throwsArgument("no such gate as node 101", () -> full.gate(6, 0, 1));
        CHECKS.throwsArgument("gate of no node as node 101", () -> full.gate(0, 0, 100));
        CHECKS.due("gates stay 96", 96, () -> full.count(4));
        CHECKS.throwsIndex("truth(100)", () -> full.truth(100));
        full.cycle(0);
        CHECKS.due("truth(99)", true, () -> full.truth(99));
    }

    private static void promise3TruthTables() {
        BoundedMachines x = new BoundedMachines(2);
        int and = x.gate(0, 0, 1);
        int or = x.gate(1, 0, 1);
        int exclusiveOr = x.gate(2, 0, 1);
        int not = x.gate(3, 0, 1);
        for (int word = 0; word < 4; word++) {
            boolean a = (word & 1) != 0;
            boolean b = (word & 2) != 0;
            x.cycle(word);
            CHECKS.due("bit 0 of " + word, a, () -> x.truth(0));
            CHECKS.due("bit 1 of " + word, b, () -> x.truth(1));
            CHECKS.due("AND by " + word, a && b, () -> x.truth(and));
            CHECKS.due("OR by " + word, a || b, () -> x.truth(or));
            CHECKS.due("EXCLUSIVE OR by " + word, a != b, () -> x.truth(exclusiveOr));
            CHECKS.due("NOT by " + word, !a, () -> x.truth(not));
        }
    }

    private static void promise4Next() {
        BoundedMachines x = new BoundedMachines(1);
        x.state(0, false);
        x.state(1, true);
        int not = x.gate(3, 2, 0);
        CHECKS.due("itself, as long as none is told", 1, () -> x.next(1, not));
        CHECKS.due("the one before", not, () -> x.next(1, 0));
        CHECKS.due("the other state has its own", 2, () -> x.next(2, 1));
        for (int node : WRONG_NODES) {
            CHECKS.throwsArgument("next(" + node + ", 0)", () -> x.next(node, 0));
            CHECKS.throwsArgument("next(1, " + node + ")", () -> x.next(1, node));
        }
        CHECKS.throwsArgument("next of a word bit", () -> x.next(0, 0));
        CHECKS.throwsArgument("next of a gate", () -> x.next(not, 0));
        CHECKS.throwsArgument("next to the first node that is none", () -> x.next(1, 4));
        CHECKS.due("refused ones changed nothing", 0, () -> x.next(1, 2));
        // both take their truths at once: they swap
        x.next(2, 1);
        x.cycle(0);
        x.cycle(0);
        CHECKS.due("state 1 after a swap", true, () -> x.truth(1));
        CHECKS.due("state 2 after a swap", false, () -> x.truth(2));
    }

    private static void promise5Compare() {
        BoundedMachines x = new BoundedMachines(2);
        for (int node : new int[] {-1, 2, 100, Integer.MIN_VALUE, Integer.MAX_VALUE}) {
            CHECKS.throwsArgument("compare(" + node + ", 0)", () -> x.compare(node, 0));
            CHECKS.throwsArgument("compare(0, " + node + ")", () -> x.compare(0, node));
        }
        CHECKS.due("no pair yet", 0, () -> x.count(5));
        for (int pair = 1; pair <= 15; pair++) {
            CHECKS.due("pair " + pair, pair, () -> x.compare(1, 1));
        }
        CHECKS.due("pair 16", 16, () -> x.compare(0, 1));
        CHECKS.throwsUnsupported("pair 17", () -> x.compare(0, 1));
        CHECKS.throwsArgument("pair 17 of no nodes", () -> x.compare(0, 2));
        CHECKS.due("sixteen pairs", 16, () -> x.count(5));
        CHECKS.due("the last pair differs", true, () -> x.cycle(1));
        CHECKS.due("it is pair 15", 15, () -> x.count(7));
        CHECKS.due("search by the last pair", 0, () -> x.search(1));
        CHECKS.due("the least word", 1, () -> x.word(0));
    }

    private static void promise6SearchAnswers() {
        BoundedMachines x = Machines.counterAgainstNo(3);
        CHECKS.due("search(4)", 1, () -> x.search(4));
        CHECKS.due("clear", 4, x::clear);
        CHECKS.due("fewer levels than are clear", 1, () -> x.search(1));
        CHECKS.due("clear stays", 4, x::clear);
        CHECKS.due("search(5)", 0, () -> x.search(5));
        CHECKS.due("known before", 0, () -> x.search(1));
        CHECKS.due("clear in the end", 4, x::clear);

        BoundedMachines equal = new BoundedMachines(1);
        int a = Machines.counter(equal, 2);
        equal.compare(a, a);
        CHECKS.due("equal pair, level 3 has a row", 1, () -> equal.search(3));
        CHECKS.due("equal pair, no row in level 4", 2, () -> equal.search(4));
        CHECKS.due("equal pair, for good", 2, () -> equal.search(20000));
        CHECKS.due("equal pair, fewer than are clear", 2, () -> equal.search(1));
        CHECKS.due("equal pair, clear", 4, equal::clear);
        CHECKS.due("equal pair, rows", 4, equal::seen);

        BoundedMachines bare = new BoundedMachines(3);
        CHECKS.due("no states and no pairs", 2, () -> bare.search(1));
        CHECKS.due("its one row", 1, bare::seen);
        CHECKS.due("its level is clear", 1, bare::clear);
        CHECKS.due("and the next one is empty", 0, () -> bare.level(1));
    }

    private static void promise6SearchRefusals() {
        BoundedMachines x = Machines.counterAgainstNo(2);
        for (int depth : new int[] {0, -1, 20001, Integer.MIN_VALUE, Integer.MAX_VALUE}) {
            CHECKS.throwsArgument("search(" + depth + ")", () -> x.search(depth));
        }
        CHECKS.due("nothing was searched by these", 0, x::seen);
        CHECKS.due("search(20000)", 0, () -> x.search(20000));
        CHECKS.throwsArgument("search(0) when the program is known", () -> x.search(0));
    }

    /** Fourteen states that count through all rows: as many levels as there can be. */
    private static void promise6LongestSearch() {
        BoundedMachines x = new BoundedMachines(1);
        int all = Machines.counterAndAll(x, 14);
        x.compare(all, x.gate(4, 0, 0));
        CHECKS.due("search(16383)", 1, () -> x.search(16383));
        CHECKS.due("clear before the last level", 16383, x::clear);
        CHECKS.due("rows before the last level", 16384, x::seen);
        CHECKS.due("search(16384)", 0, () -> x.search(16384));
        CHECKS.due("the longest length", 16384, x::length);
        CHECKS.due("its last word but one", 1, () -> x.word(16382));
        CHECKS.due("its last word", 0, () -> x.word(16383));
        CHECKS.throwsIndex("no word behind it", () -> x.word(16384));
        CHECKS.due("replay of the longest", 16383, x::replay);
        CHECKS.due("its cycles", 16384, () -> x.count(6));

        BoundedMachines equal = new BoundedMachines(1);
        Machines.counterAndAll(equal, 14);
        CHECKS.due("all levels clear", 2, () -> equal.search(20000));
        CHECKS.due("as many as there are rows", 16384, equal::clear);
        CHECKS.due("all rows", 16384, equal::seen);
        CHECKS.due("level 16383", 1, () -> equal.level(16383));
        CHECKS.due("level 16384", 0, () -> equal.level(16384));
        CHECKS.throwsIndex("level 16385", () -> equal.level(16385));
    }

    /** Nothing of a search before is left for the next one, whether it goes through more rows, fewer or the same. */
    private static void promise6SearchAnew() {
        BoundedMachines x = new BoundedMachines(1);
        int top = Machines.counter(x, 3);
        clearsAll("three states", x, 8);
        int flipped = x.next(top, top);
        clearsAll("the top state stays", x, 4);
        x.next(top, flipped);
        clearsAll("the top state counts again", x, 8);
        x.next(top, flipped);
        clearsAll("the same once more", x, 8);
        x.state(1, true);
        clearsAll("a state more that stays", x, 8);

        x.compare(top, x.gate(4, 0, 0));
        CHECKS.due("a pair that differs", 0, () -> x.search(20));
        CHECKS.due("its length", 5, x::length);
        CHECKS.due("its word before the last", 1, () -> x.word(3));
        CHECKS.due("its last word", 0, () -> x.word(4));
        x.next(top, top);
        CHECKS.due("no program any more", 2, () -> x.search(20));
        CHECKS.due("no length any more", BoundedMachines.NONE, x::length);
        CHECKS.throwsIndex("no word any more", () -> x.word(0));
    }

    private static void clearsAll(String what, BoundedMachines x, int rows) {
        CHECKS.due(what + ": search", 2, () -> x.search(20000));
        CHECKS.due(what + ": seen", rows, x::seen);
        CHECKS.due(what + ": clear", rows, x::clear);
        CHECKS.due(what + ": the last row's level", 1, () -> x.level(rows - 1));
        CHECKS.due(what + ": the level without rows", 0, () -> x.level(rows));
        CHECKS.throwsIndex(what + ": no level behind it", () -> x.level(rows + 1));
    }

    private static void promises7And8Program() {
        BoundedMachines x = Machines.counterAgainstNo(2);
        CHECKS.due("length before", -1, x::length);
        CHECKS.throwsIndex("word(0) before", () -> x.word(0));
        CHECKS.throwsIndex("word(-1) before", () -> x.word(-1));
        x.search(2);
        CHECKS.due("length while it goes on", -1, x::length);
        CHECKS.throwsIndex("word(0) while it goes on", () -> x.word(0));
        x.search(3);
        CHECKS.due("length", 3, x::length);
        int[] want = {1, 1, 0};
        for (int k = 0; k < want.length; k++) {
            int asked = k;
            CHECKS.due("word(" + k + ")", want[k], () -> x.word(asked));
        }
        for (int k : new int[] {-1, 3, Integer.MIN_VALUE, Integer.MAX_VALUE}) {
            CHECKS.throwsIndex("word(" + k + ")", () -> x.word(k));
        }
    }

    /** A later first word reaches the difference by a smaller second one: the first word counts first. */
    private static void promise8LeastOfEquallyShort() {
        BoundedMachines x = new BoundedMachines(2);
        int low = x.state(0, false);
        int high = x.state(1, false);
        x.next(low, 0);
        x.next(high, 1);
        int both = x.gate(0, 0, 1);
        int byLow = x.gate(0, low, both);
        int byHigh = x.gate(0, high, x.gate(3, 0, 0));
        x.compare(x.gate(1, byLow, byHigh), x.gate(4, 0, 0));
        CHECKS.due("search", 0, () -> x.search(9));
        CHECKS.due("length", 2, x::length);
        CHECKS.due("first word 1, though word 2 goes on with a smaller one", 1, () -> x.word(0));
        CHECKS.due("second word", 3, () -> x.word(1));
        CHECKS.due("rows of level 1", 3, () -> x.level(1));
        CHECKS.due("rows that came of level 1 do not count", 4, x::seen);
    }

    private static void promises9To11Levels() {
        BoundedMachines x = new BoundedMachines(2);
        int a = x.state(0, false);
        int b = x.state(1, false);
        int c = x.state(0, false);
        x.next(a, 0);
        x.next(b, 1);
        x.next(c, x.gate(0, a, b));
        CHECKS.due("seen before", 0, x::seen);
        CHECKS.due("search(1)", 1, () -> x.search(1));
        CHECKS.due("seen after level 0", 4, x::seen);
        CHECKS.due("clear after level 0", 1, x::clear);
        CHECKS.due("level(0)", 1, () -> x.level(0));
        CHECKS.due("level(1), not clear yet", 3, () -> x.level(1));
        CHECKS.throwsIndex("level(2)", () -> x.level(2));
        CHECKS.throwsIndex("level(-1)", () -> x.level(-1));
        CHECKS.due("search(5)", 2, () -> x.search(5));
        CHECKS.due("seen in the end", 8, x::seen);
        CHECKS.due("clear in the end", 3, x::clear);
        CHECKS.due("level(2) in the end", 4, () -> x.level(2));
        CHECKS.due("level(3) is empty", 0, () -> x.level(3));
        for (int k : new int[] {4, -1, Integer.MIN_VALUE, Integer.MAX_VALUE}) {
            CHECKS.throwsIndex("level(" + k + ") in the end", () -> x.level(k));
        }

        BoundedMachines found = Machines.counterAgainstNo(2);
        found.search(20);
        CHECKS.due("clear when found", 2, found::clear);
        CHECKS.due("seen when found", 3, found::seen);
        CHECKS.due("the level that differs has its rows", 1, () -> found.level(2));
        CHECKS.throwsIndex("no level behind it", () -> found.level(3));

        BoundedMachines atOnce = new BoundedMachines(1);
        atOnce.compare(0, atOnce.gate(4, 0, 0));
        atOnce.search(7);
        CHECKS.due("no level clear", 0, atOnce::clear);
        CHECKS.due("level 0 has the beginning", 1, () -> atOnce.level(0));
        CHECKS.due("seen has it too", 1, atOnce::seen);
    }

    private static void promise11BeforeAnySearch() {
        BoundedMachines x = Machines.counterAgainstNo(2);
        CHECKS.due("level(0) before any search", 0, () -> x.level(0));
        CHECKS.throwsIndex("level(1) before any search", () -> x.level(1));
        CHECKS.throwsIndex("level(-1) before any search", () -> x.level(-1));
    }

    private static void promise12And13Hand() {
        BoundedMachines x = new BoundedMachines(1);
        int state = x.state(0, true);
        int not = x.gate(3, state, 0);
        x.next(state, not);
        x.compare(state, 0);
        CHECKS.due("first cycle, equal", false, () -> x.cycle(1));
        CHECKS.due("second cycle, the state is false now", true, () -> x.cycle(1));
        CHECKS.due("cycles", 2, () -> x.count(6));
        CHECKS.due("the pair", 0, () -> x.count(7));
        x.begin();
        CHECKS.due("cycles after begin", 0, () -> x.count(6));
        CHECKS.due("the pair after begin", -1, () -> x.count(7));
        CHECKS.due("state after begin", true, () -> x.truth(state));
        CHECKS.due("gate after begin", false, () -> x.truth(not));
        CHECKS.due("word bit after begin", false, () -> x.truth(0));
        CHECKS.due("as at first", false, () -> x.cycle(1));
        x.begin();
        CHECKS.due("the other word", true, () -> x.cycle(0));
        x.search(3);
        CHECKS.due("search leaves the run by hand alone", 1, () -> x.count(6));
        x.begin();
        CHECKS.due("begin leaves the search alone", 0, () -> x.search(1));
        CHECKS.due("its length too", 1, x::length);
    }

    private static void promise13LowestBits() {
        BoundedMachines x = new BoundedMachines(2);
        int[][] wordAndBits = {{4, 0}, {7, 3}, {-1, 3}, {-2, 2}, {Integer.MIN_VALUE, 0}, {Integer.MAX_VALUE, 3}};
        for (int[] row : wordAndBits) {
            CHECKS.due("cycle without pairs", false, () -> x.cycle(row[0]));
            CHECKS.due("bit 0 of " + row[0], (row[1] & 1) != 0, () -> x.truth(0));
            CHECKS.due("bit 1 of " + row[0], (row[1] & 2) != 0, () -> x.truth(1));
        }
        BoundedMachines wide = new BoundedMachines(4);
        wide.cycle(-1);
        for (int bit = 0; bit < 4; bit++) {
            int asked = bit;
            CHECKS.due("bit " + bit + " of four", true, () -> wide.truth(asked));
        }
    }

    private static void promise14Truth() {
        BoundedMachines x = new BoundedMachines(1);
        int up = x.state(0, true);
        int down = x.state(1, false);
        int yes = x.gate(5, 0, 0);
        x.next(up, 0);
        x.next(down, yes);
        CHECKS.due("a state before any cycle", true, () -> x.truth(up));
        CHECKS.due("the other one", false, () -> x.truth(down));
        CHECKS.due("YES before any cycle", false, () -> x.truth(yes));
        x.cycle(0);
        CHECKS.due("a state as it was in the cycle", true, () -> x.truth(up));
        CHECKS.due("the other one as it was", false, () -> x.truth(down));
        CHECKS.due("YES in a cycle", true, () -> x.truth(yes));
        x.cycle(1);
        CHECKS.due("the state in the next cycle", false, () -> x.truth(up));
        CHECKS.due("the other one in the next cycle", true, () -> x.truth(down));
        CHECKS.due("the word bit", true, () -> x.truth(0));
        for (int node : new int[] {-1, 4, 99, 100, Integer.MIN_VALUE, Integer.MAX_VALUE}) {
            CHECKS.throwsIndex("truth(" + node + ")", () -> x.truth(node));
        }
    }

    private static void promise15Replay() {
        BoundedMachines x = Machines.counterAgainstNo(2);
        x.cycle(1);
        CHECKS.due("replay without a program", -1, x::replay);
        CHECKS.due("the run by hand stays as it is", 1, () -> x.count(6));
        x.search(20);
        x.cycle(1);
        CHECKS.due("replay", 2, x::replay);
        CHECKS.due("cycles of the replay alone", 3, () -> x.count(6));
        CHECKS.due("the pair that differed", 0, () -> x.count(7));
        CHECKS.due("the low state in the last cycle", false, () -> x.truth(1));
        CHECKS.due("the top state in the last cycle", true, () -> x.truth(4));
        CHECKS.due("the word of the last cycle", false, () -> x.truth(0));
        CHECKS.due("replay again", 2, x::replay);
        CHECKS.due("a cycle behind it goes on from there", true, () -> x.cycle(1));
        CHECKS.due("and counts on", 4, () -> x.count(6));
        CHECKS.due("the program stays known", 3, x::length);
    }

    private static void promise16Count() {
        BoundedMachines x = new BoundedMachines(3);
        x.state(0, true);
        x.state(1, true);
        x.state(1, false);
        x.gate(3, 0, 0);
        x.gate(4, 0, 0);
        x.compare(0, 0);
        x.compare(0, 1);
        x.compare(0, 2);
        int[] want = {3, 8, 1, 2, 2, 3, 0, -1};
        for (int what = 0; what < want.length; what++) {
            int asked = what;
            CHECKS.due("count(" + what + ")", want[what], () -> x.count(asked));
        }
        CHECKS.due("a cycle that differs", true, () -> x.cycle(1));
        CHECKS.due("the first pair of two", 1, () -> x.count(7));
        x.cycle(3);
        CHECKS.due("the other pair", 2, () -> x.count(7));
        CHECKS.due("a cycle that does not differ", false, () -> x.cycle(7));
        CHECKS.due("no pair", -1, () -> x.count(7));
        CHECKS.due("three cycles", 3, () -> x.count(6));
        for (int what : new int[] {-1, 8, 100, Integer.MIN_VALUE, Integer.MAX_VALUE}) {
            CHECKS.due("count(" + what + ")", -1, () -> x.count(what));
        }
    }
}
