/** Promises 1 to 5, by which machines are made: a test for each sentence that has an edge. */
public final class BuildingEdgeTests {
    private static final Checks CHECKS = new Checks();

    private BuildingEdgeTests() {
    }

    public static void main(String[] args) {
        CHECKS.runTests(BuildingEdgeTests.class, "promise1", "promise2", "promise3", "promise4", "promise5");
        CHECKS.end("BuildingEdgeTests");
    }

    private static void hasBits(int bits, int want) {
        BoundedMachines x = new BoundedMachines(bits);
        CHECKS.due("count(0) of new(" + bits + ")", want, () -> x.count(0));
        CHECKS.due("count(1) of new(" + bits + ")", want, () -> x.count(1));
        CHECKS.due("the last word bit of new(" + bits + ")", false, () -> x.truth(want - 1));
        CHECKS.throwsIndex("the node behind it of new(" + bits + ")", () -> x.truth(want));
    }

    /** "B is 1 + (bits - 1) modulo 4": bits themselves */
    static void promise1BitsFromOneToFour() {
        hasBits(1, 1);
        hasBits(2, 2);
        hasBits(3, 3);
        hasBits(4, 4);
    }

    /** "modulo 4": five is the first one too large, and begins again with 1 */
    static void promise1BitsAboveFour() {
        hasBits(5, 1);
        hasBits(6, 2);
        hasBits(7, 3);
        hasBits(8, 4);
        hasBits(9, 1);
    }

    /** "(the rest not below 0)": bits - 1 is -1, the rest 3 */
    static void promise1BitsZero() {
        hasBits(0, 4);
    }

    /** "(the rest not below 0)" */
    static void promise1BitsBelowZero() {
        hasBits(-1, 3);
        hasBits(-2, 2);
        hasBits(-3, 1);
        hasBits(-4, 4);
        hasBits(-5, 3);
    }

    /** "(bits - 1) modulo 4": the smallest int less 1 is -2147483649, whose rest is 3 */
    static void promise1SmallestBits() {
        hasBits(Integer.MIN_VALUE, 4);
        hasBits(Integer.MIN_VALUE + 1, 1);
        hasBits(Integer.MIN_VALUE + 2, 2);
    }

    /** "(bits - 1) modulo 4" */
    static void promise1LargestBits() {
        hasBits(Integer.MAX_VALUE, 3);
        hasBits(Integer.MAX_VALUE - 1, 2);
    }

    /** "A new object": nothing is told, searched or run yet */
    static void promise1NothingIsThereYet() {
        BoundedMachines x = new BoundedMachines(3);
        int[] want = {3, 3, 0, 0, 0, 0, 0, -1};
        for (int what = 0; what < want.length; what++) {
            int asked = what;
            CHECKS.due("count(" + what + ")", want[what], () -> x.count(asked));
        }
        nothingIsSearched("new", x);
        CHECKS.due("replay", -1, x::replay);
        for (int node = 0; node < 3; node++) {
            int asked = node;
            CHECKS.due("truth(" + node + ")", false, () -> x.truth(asked));
        }
    }

    /** "A new object": what another one was told is not in it */
    static void promise1ObjectsAreApart() {
        BoundedMachines first = Machines.counterAgainstNo(2);
        first.search(20);
        first.cycle(1);
        BoundedMachines second = new BoundedMachines(2);
        CHECKS.due("nodes of the second", 2, () -> second.count(1));
        nothingIsSearched("the second", second);
        second.compare(0, 1);
        second.cycle(1);
        second.cycle(1);
        second.search(1);
        CHECKS.due("pairs of the first", 1, () -> first.count(5));
        CHECKS.due("cycles of the first", 1, () -> first.count(6));
        CHECKS.due("length of the first", 3, first::length);
    }

    /** "A state more: its node." */
    static void promise2AnswersTheNode() {
        for (int bits = 1; bits <= 4; bits++) {
            BoundedMachines x = new BoundedMachines(bits);
            CHECKS.due("the first with B = " + bits, bits, () -> x.state(0, true));
            CHECKS.due("the second with B = " + bits, bits + 1, () -> x.state(1, true));
            CHECKS.due("nodes", bits + 2, () -> x.count(1));
            CHECKS.due("states of side 0", 1, () -> x.count(2));
            CHECKS.due("states of side 1", 1, () -> x.count(3));
        }
    }

    /** "IllegalArgumentException, when side is not 0 or 1": too small */
    static void promise2SideBelowZero() {
        BoundedMachines x = new BoundedMachines(1);
        CHECKS.throwsArgument("state(-1)", () -> x.state(-1, true));
        CHECKS.throwsArgument("state(the smallest)", () -> x.state(Integer.MIN_VALUE, false));
        CHECKS.due("no node came of it", 1, () -> x.count(1));
    }

    /** "IllegalArgumentException, when side is not 0 or 1": too large */
    static void promise2SideAboveOne() {
        BoundedMachines x = new BoundedMachines(1);
        CHECKS.throwsArgument("state(2)", () -> x.state(2, true));
        CHECKS.throwsArgument("state(the largest)", () -> x.state(Integer.MAX_VALUE, false));
        CHECKS.due("no node came of it", 1, () -> x.count(1));
    }

    private static void takesFourteen(String what, BoundedMachines x, int sideOfEven, int sideOfOdd) {
        for (int s = 0; s < 14; s++) {
            int side = s % 2 == 0 ? sideOfEven : sideOfOdd;
            CHECKS.due(what + ": state " + (s + 1), 1 + s, () -> x.state(side, false));
        }
    }

    /** "UnsupportedOperationException, when there are fourteen states": the fourteenth is taken */
    static void promise2FourteenthState() {
        BoundedMachines left = new BoundedMachines(1);
        takesFourteen("of side 0", left, 0, 0);
        CHECKS.due("states of side 0", 14, () -> left.count(2));
        BoundedMachines right = new BoundedMachines(1);
        takesFourteen("of side 1", right, 1, 1);
        CHECKS.due("states of side 1", 14, () -> right.count(3));
        BoundedMachines both = new BoundedMachines(1);
        takesFourteen("of both sides", both, 0, 1);
        CHECKS.due("seven of side 0", 7, () -> both.count(2));
        CHECKS.due("seven of side 1", 7, () -> both.count(3));
    }

    /** "UnsupportedOperationException, when there are fourteen states": of both sides together */
    static void promise2FifteenthState() {
        BoundedMachines x = Machines.fullOfStates();
        CHECKS.throwsUnsupported("of side 0", () -> x.state(0, false));
        CHECKS.throwsUnsupported("of side 1", () -> x.state(1, true));
        CHECKS.due("nodes", 15, () -> x.count(1));
        CHECKS.due("seven stay of side 0", 7, () -> x.count(2));
        CHECKS.due("seven stay of side 1", 7, () -> x.count(3));
        CHECKS.due("a gate still goes", 15, () -> x.gate(5, 0, 0));
    }

    /** "or 100 nodes": a state as the hundredth is taken */
    static void promise2StateAsHundredthNode() {
        BoundedMachines x = new BoundedMachines(1);
        Machines.fillWithGates(x, 99);
        CHECKS.due("the hundredth node", 99, () -> x.state(1, true));
        CHECKS.due("its truth", true, () -> x.truth(99));
        CHECKS.due("what it has next", 99, () -> x.next(99, 0));
        CHECKS.due("nodes", 100, () -> x.count(1));
    }

    /** "or 100 nodes": a state behind them is not */
    static void promise2StateAsNode101() {
        BoundedMachines x = Machines.fullOfNodes(1);
        CHECKS.throwsUnsupported("of side 0", () -> x.state(0, false));
        CHECKS.throwsUnsupported("of side 1", () -> x.state(1, true));
        CHECKS.due("nodes", 100, () -> x.count(1));
        CHECKS.due("states of side 0", 0, () -> x.count(2));
        CHECKS.due("states of side 1", 0, () -> x.count(3));
    }

    /** "when there are fourteen states, or 100 nodes": both at once */
    static void promise2FourteenStatesAndAllNodes() {
        BoundedMachines x = Machines.fullOfStates();
        Machines.fillWithGates(x, 100);
        CHECKS.throwsUnsupported("state", () -> x.state(0, false));
    }

    /** "Of several exceptions the first one told is thrown." */
    static void promise2FirstExceptionTold() {
        BoundedMachines states = Machines.fullOfStates();
        CHECKS.throwsArgument("no side, fourteen states", () -> states.state(2, false));
        BoundedMachines nodes = Machines.fullOfNodes(4);
        CHECKS.throwsArgument("no side, 100 nodes", () -> nodes.state(-1, false));
        Machines.fillWithGates(states, 100);
        CHECKS.throwsArgument("no side, fourteen states and 100 nodes", () -> states.state(2, false));
    }

    /** The document leaves it open; the class reads: a call that throws changes nothing. */
    static void promise2RefusedStateLeavesAll() {
        BoundedMachines x = searchedAndRun();
        CHECKS.throwsArgument("state", () -> x.state(2, false));
        isSearchedAndRun(x);
        refusedWhenFullLeavesAll(Machines.fullOfStates(), full -> full.state(0, true));
        refusedWhenFullLeavesAll(Machines.fullOfNodes(1), full -> full.state(0, true));
    }

    private static void refusedWhenFullLeavesAll(BoundedMachines full, Change change) {
        CHECKS.due("search", 2, () -> full.search(1));
        full.cycle(1);
        int nodes = full.count(1);
        CHECKS.throwsUnsupported("the change", () -> {
            change.by(full);
            return "taken";
        });
        CHECKS.due("nodes", nodes, () -> full.count(1));
        CHECKS.due("clear", 1, full::clear);
        CHECKS.due("seen", 1, full::seen);
        CHECKS.due("cycles", 1, () -> full.count(6));
        CHECKS.due("truth of the word bit", true, () -> full.truth(0));
    }

    /** A program of three words found, two cycles by hand. */
    private static BoundedMachines searchedAndRun() {
        BoundedMachines x = Machines.counterAgainstNo(2);
        x.search(20);
        x.cycle(1);
        x.cycle(1);
        return x;
    }

    private static void isSearchedAndRun(BoundedMachines x) {
        CHECKS.due("nodes", 8, () -> x.count(1));
        CHECKS.due("pairs", 1, () -> x.count(5));
        CHECKS.due("length", 3, x::length);
        CHECKS.due("last word", 0, () -> x.word(2));
        CHECKS.due("clear", 2, x::clear);
        CHECKS.due("seen", 3, x::seen);
        CHECKS.due("level(2)", 1, () -> x.level(2));
        CHECKS.due("cycles", 2, () -> x.count(6));
        CHECKS.due("truth of the word bit", true, () -> x.truth(0));
        CHECKS.due("truth of the low state", true, () -> x.truth(1));
        CHECKS.due("the third cycle differs", true, () -> x.cycle(0));
    }

    private interface Change {
        void by(BoundedMachines x);
    }

    private static void nothingIsSearched(String what, BoundedMachines x) {
        CHECKS.due(what + ": length", -1, x::length);
        CHECKS.throwsIndex(what + ": word(0)", () -> x.word(0));
        CHECKS.due(what + ": clear", 0, x::clear);
        CHECKS.due(what + ": seen", 0, x::seen);
        CHECKS.due(what + ": level(0)", 0, () -> x.level(0));
        CHECKS.throwsIndex(what + ": level(1)", () -> x.level(1));
    }

    /** Changes that leave what the machines do as it was, so that the same search must come again. */
    private static void searchIsGoneBy(Change change) {
        BoundedMachines found = Machines.counterAgainstNo(2);
        CHECKS.due("a program", 0, () -> found.search(20));
        change.by(found);
        nothingIsSearched("a program was known", found);
        CHECKS.due("replay", -1, found::replay);
        CHECKS.due("not known any more", 1, () -> found.search(2));
        CHECKS.due("found again", 0, () -> found.search(3));
        CHECKS.due("its length", 3, found::length);
        CHECKS.due("its rows", 3, found::seen);

        BoundedMachines underWay = Machines.counterAgainstNo(3);
        CHECKS.due("some levels", 1, () -> underWay.search(2));
        change.by(underWay);
        nothingIsSearched("some levels were clear", underWay);
        CHECKS.due("one level", 1, () -> underWay.search(1));
        CHECKS.due("is clear", 1, underWay::clear);

        BoundedMachines over = Machines.counterAgainstItself(2);
        CHECKS.due("all", 2, () -> over.search(20));
        change.by(over);
        nothingIsSearched("all was clear", over);
        CHECKS.due("not all any more", 1, () -> over.search(3));
        CHECKS.due("all again", 2, () -> over.search(4));
    }

    /** "What was searched is gone .. by this" */
    static void promise2SearchIsGoneByState() {
        searchIsGoneBy(x -> x.state(1, true));
    }

    /** "What was searched is gone .. by .. gate()" */
    static void promise2SearchIsGoneByGate() {
        searchIsGoneBy(x -> x.gate(4, 0, 0));
    }

    /** "What was searched is gone .. by .. next()"; also when it tells the node that was told before */
    static void promise2SearchIsGoneByNext() {
        searchIsGoneBy(x -> x.next(1, 2));
    }

    /** "What was searched is gone .. by .. compare()" */
    static void promise2SearchIsGoneByCompare() {
        searchIsGoneBy(x -> x.compare(0, 0));
    }

    private static void handBeginsAnewBy(Change change) {
        BoundedMachines x = Machines.flipper();
        CHECKS.due("a cycle that differs", true, () -> x.cycle(2));
        CHECKS.due("bit 1 in it", true, () -> x.truth(1));
        CHECKS.due("YES in it", true, () -> x.truth(4));
        change.by(x);
        CHECKS.due("cycles", 0, () -> x.count(6));
        CHECKS.due("pair", -1, () -> x.count(7));
        CHECKS.due("the state", true, () -> x.truth(2));
        for (int node : new int[] {0, 1, 3, 4}) {
            CHECKS.due("truth(" + node + ")", false, () -> x.truth(node));
        }
        CHECKS.due("the state is as at first in the next cycle", false, () -> x.cycle(1));
        CHECKS.due("which is the first", 1, () -> x.count(6));
    }

    /** "the run by hand begins anew, by this" */
    static void promise2HandBeginsAnewByState() {
        handBeginsAnewBy(x -> x.state(1, true));
        BoundedMachines x = new BoundedMachines(1);
        x.cycle(1);
        int yes = x.state(0, true);
        int no = x.state(0, false);
        CHECKS.due("a new state is as at first", true, () -> x.truth(yes));
        CHECKS.due("and so is one that is false", false, () -> x.truth(no));
    }

    /** "the run by hand begins anew, by .. gate()" */
    static void promise2HandBeginsAnewByGate() {
        handBeginsAnewBy(x -> x.gate(5, 0, 0));
        BoundedMachines x = new BoundedMachines(1);
        x.cycle(1);
        int yes = x.gate(5, 0, 0);
        CHECKS.due("a new gate before any cycle", false, () -> x.truth(yes));
    }

    /** "the run by hand begins anew, by .. next()"; also when it tells the node that was told before */
    static void promise2HandBeginsAnewByNext() {
        handBeginsAnewBy(x -> x.next(2, 3));
    }

    /** "the run by hand begins anew, by .. compare()" */
    static void promise2HandBeginsAnewByCompare() {
        handBeginsAnewBy(x -> x.compare(1, 1));
    }

    /** "A gate more: its node." */
    static void promise3AnswersTheNode() {
        for (int bits = 1; bits <= 4; bits++) {
            BoundedMachines x = new BoundedMachines(bits);
            for (int op = 0; op <= 5; op++) {
                int asked = op;
                CHECKS.due("op " + op + " with B = " + bits, bits + op, () -> x.gate(asked, 0, 0));
            }
            CHECKS.due("gates", 6, () -> x.count(4));
            CHECKS.due("nodes", bits + 6, () -> x.count(1));
        }
    }

    /** "IllegalArgumentException, when there is no such op": too small */
    static void promise3OpBelowZero() {
        BoundedMachines x = new BoundedMachines(2);
        CHECKS.throwsArgument("gate(-1)", () -> x.gate(-1, 0, 1));
        CHECKS.throwsArgument("gate(the smallest)", () -> x.gate(Integer.MIN_VALUE, 0, 1));
        CHECKS.due("no node came of it", 2, () -> x.count(1));
    }

    /** "IllegalArgumentException, when there is no such op": too large */
    static void promise3OpAboveFive() {
        BoundedMachines x = new BoundedMachines(2);
        CHECKS.throwsArgument("gate(6)", () -> x.gate(6, 0, 1));
        CHECKS.throwsArgument("gate(7)", () -> x.gate(7, 0, 1));
        CHECKS.throwsArgument("gate(the largest)", () -> x.gate(Integer.MAX_VALUE, 0, 1));
        CHECKS.due("no node came of it", 2, () -> x.count(1));
    }

    /** Each of a gate's two nodes is wrong alone, then both. */
    private static void wantsTwoNodes(int wrong) {
        BoundedMachines x = new BoundedMachines(2);
        for (int op = 0; op <= 2; op++) {
            int asked = op;
            CHECKS.throwsArgument("gate(" + op + ", " + wrong + ", 0)", () -> x.gate(asked, wrong, 0));
            CHECKS.throwsArgument("gate(" + op + ", 0, " + wrong + ")", () -> x.gate(asked, 0, wrong));
            CHECKS.throwsArgument("gate(" + op + ") of both", () -> x.gate(asked, wrong, wrong));
        }
        CHECKS.due("no node came of it", 2, () -> x.count(1));
    }

    /** "or no such nodes as it wants": AND, OR and EXCLUSIVE OR want two, and one is too small */
    static void promise3TwoNodesBelowZero() {
        wantsTwoNodes(-1);
        wantsTwoNodes(Integer.MIN_VALUE);
    }

    /** "or no such nodes as it wants": AND, OR and EXCLUSIVE OR want two, and one is too large */
    static void promise3TwoNodesTooLarge() {
        wantsTwoNodes(2);
        wantsTwoNodes(99);
        wantsTwoNodes(100);
        wantsTwoNodes(Integer.MAX_VALUE);
    }

    /** "no such nodes as it wants": the first and the last node that there are will do */
    static void promise3FirstAndLastNode() {
        for (int op = 0; op <= 3; op++) {
            BoundedMachines x = new BoundedMachines(4);
            int asked = op;
            CHECKS.due("op " + op + " of the first and the last", 4, () -> x.gate(asked, 0, 3));
            CHECKS.due("op " + op + " of the last and the first", 5, () -> x.gate(asked, 4, 0));
        }
    }

    /** "or no such nodes as it wants": NOT wants one */
    static void promise3NotWantsOneNode() {
        BoundedMachines x = new BoundedMachines(2);
        for (int wrong : new int[] {-1, 2, 100, Integer.MIN_VALUE, Integer.MAX_VALUE}) {
            CHECKS.throwsArgument("NOT of " + wrong, () -> x.gate(3, wrong, 0));
        }
        CHECKS.due("no node came of it", 2, () -> x.count(1));
    }

    /** "no such nodes as it wants": NOT does not want the other one, so it may be anything */
    static void promise3NotLeavesTheOtherOne() {
        int node = 2;
        BoundedMachines x = new BoundedMachines(2);
        for (int free : new int[] {-1, 100, Integer.MIN_VALUE, Integer.MAX_VALUE}) {
            int want = node++;
            CHECKS.due("NOT of node 1 and " + free, want, () -> x.gate(3, 1, free));
            x.cycle(0);
            CHECKS.due("its truth", true, () -> x.truth(want));
        }
    }

    /** "no such nodes as it wants": NO and YES want none, so both may be anything */
    static void promise3NoAndYesWantNoNodes() {
        int node = 2;
        BoundedMachines x = new BoundedMachines(2);
        for (int free : new int[] {-1, 100, Integer.MIN_VALUE, Integer.MAX_VALUE}) {
            int no = node++;
            int yes = node++;
            CHECKS.due("NO of " + free, no, () -> x.gate(4, free, free));
            CHECKS.due("YES of " + free, yes, () -> x.gate(5, free, free));
            x.cycle(0);
            CHECKS.due("truth of NO", false, () -> x.truth(no));
            CHECKS.due("truth of YES", true, () -> x.truth(yes));
        }
    }

    /** "UnsupportedOperationException, when there are 100 nodes": the hundredth is taken */
    static void promise3HundredthNode() {
        for (int op = 0; op <= 5; op++) {
            BoundedMachines x = new BoundedMachines(1);
            Machines.fillWithGates(x, 99);
            int asked = op;
            CHECKS.due("op " + op, 99, () -> x.gate(asked, 98, 97));
            CHECKS.due("gates", 99, () -> x.count(4));
        }
    }

    /** "UnsupportedOperationException, when there are 100 nodes" */
    static void promise3Node101() {
        BoundedMachines x = Machines.fullOfNodes(1);
        for (int op = 0; op <= 5; op++) {
            int asked = op;
            CHECKS.throwsUnsupported("op " + op, () -> x.gate(asked, 0, 99));
        }
        CHECKS.throwsUnsupported("NOT with a free node", () -> x.gate(3, 0, 100));
        CHECKS.throwsUnsupported("NO with free nodes", () -> x.gate(4, -1, 100));
        CHECKS.throwsUnsupported("YES with free nodes", () -> x.gate(5, -1, 100));
        CHECKS.due("nodes", 100, () -> x.count(1));
        CHECKS.due("gates", 99, () -> x.count(4));
    }

    /** "Of several exceptions the first one told is thrown." */
    static void promise3FirstExceptionTold() {
        BoundedMachines x = Machines.fullOfNodes(4);
        CHECKS.throwsArgument("no such op, 100 nodes", () -> x.gate(6, 0, 1));
        CHECKS.throwsArgument("no op below 0, 100 nodes", () -> x.gate(-1, 0, 1));
        CHECKS.throwsArgument("no such left node, 100 nodes", () -> x.gate(0, 100, 1));
        CHECKS.throwsArgument("no such right node, 100 nodes", () -> x.gate(2, 0, -1));
        CHECKS.throwsArgument("NOT of no node, 100 nodes", () -> x.gate(3, 100, 0));
    }

    /** The document leaves it open; the class reads: a call that throws changes nothing. */
    static void promise3RefusedGateLeavesAll() {
        BoundedMachines x = searchedAndRun();
        CHECKS.throwsArgument("no such op", () -> x.gate(6, 0, 0));
        CHECKS.throwsArgument("no such node", () -> x.gate(0, 0, 8));
        isSearchedAndRun(x);
        refusedWhenFullLeavesAll(Machines.fullOfNodes(1), full -> full.gate(5, 0, 0));
    }

    /** "itself, as long as none is told": the one before the first that is told */
    static void promise4ItselfIsBeforeTheFirst() {
        BoundedMachines x = new BoundedMachines(1);
        int a = x.state(0, true);
        int b = x.state(1, false);
        CHECKS.due("of the first state", a, () -> x.next(a, 0));
        CHECKS.due("of the second", b, () -> x.next(b, a));
    }

    /** "The node whose truth a state has next: the one before." */
    static void promise4AnswersTheOneBefore() {
        BoundedMachines x = new BoundedMachines(2);
        int state = x.state(0, false);
        int other = x.state(1, false);
        int gate = x.gate(5, 0, 0);
        int[] told = {0, 1, gate, gate, other, state, state, 0};
        int before = state;
        for (int node : told) {
            CHECKS.due("next(" + node + ")", before, () -> x.next(state, node));
            before = node;
        }
        CHECKS.due("the other state has its own", other, () -> x.next(other, other));
    }

    private static void isNoState(int wrong) {
        BoundedMachines x = Machines.flipper();
        CHECKS.throwsArgument("next(" + wrong + ", 0)", () -> x.next(wrong, 0));
        CHECKS.throwsArgument("next(" + wrong + ", " + wrong + ")", () -> x.next(wrong, wrong));
    }

    /** "IllegalArgumentException, when the first one is no state": no node at all, too small */
    static void promise4StateBelowZero() {
        isNoState(-1);
        isNoState(Integer.MIN_VALUE);
    }

    /** "IllegalArgumentException, when the first one is no state": no node at all, too large */
    static void promise4StateTooLarge() {
        isNoState(5);
        isNoState(99);
        isNoState(100);
        isNoState(Integer.MAX_VALUE);
    }

    /** "IllegalArgumentException, when the first one is no state": a word bit, also one whose number is a state's */
    static void promise4WordBitIsNoState() {
        isNoState(0);
        isNoState(1);
    }

    /** "IllegalArgumentException, when the first one is no state": a gate, right behind the state and the last one */
    static void promise4GateIsNoState() {
        isNoState(3);
        isNoState(4);
    }

    /** "IllegalArgumentException, when .. the other one no node": too small */
    static void promise4NodeBelowZero() {
        BoundedMachines x = Machines.flipper();
        CHECKS.throwsArgument("next(2, -1)", () -> x.next(2, -1));
        CHECKS.throwsArgument("next(2, the smallest)", () -> x.next(2, Integer.MIN_VALUE));
        CHECKS.due("the one before stays", 3, () -> x.next(2, 3));
    }

    /** "IllegalArgumentException, when .. the other one no node": too large */
    static void promise4NodeTooLarge() {
        BoundedMachines x = Machines.flipper();
        for (int wrong : new int[] {5, 99, 100, Integer.MAX_VALUE}) {
            CHECKS.throwsArgument("next(2, " + wrong + ")", () -> x.next(2, wrong));
        }
        CHECKS.due("the one before stays", 3, () -> x.next(2, 3));
    }

    /** "when .. the other one no node": the first and the last one that there are will do */
    static void promise4FirstAndLastNode() {
        BoundedMachines x = Machines.flipper();
        CHECKS.due("the first node", 3, () -> x.next(2, 0));
        CHECKS.due("the last node", 0, () -> x.next(2, 4));
        x.cycle(0);
        x.cycle(0);
        CHECKS.due("it has the last node's truth", true, () -> x.truth(2));
    }

    /** Nothing in it is full: fourteen states, 100 nodes and sixteen pairs do not refuse next(). */
    static void promise4FullMachine() {
        BoundedMachines x = Machines.fullOfStates();
        Machines.fillWithGates(x, 100);
        for (int pair = 0; pair < 16; pair++) {
            x.compare(0, 0);
        }
        CHECKS.due("the first state", 1, () -> x.next(1, 99));
        CHECKS.due("the last state", 14, () -> x.next(14, 99));
        x.cycle(0);
        x.cycle(0);
        CHECKS.due("the first has the last node's truth", true, () -> x.truth(1));
        CHECKS.due("one between has its own", false, () -> x.truth(7));
        CHECKS.due("the last has the last node's truth", true, () -> x.truth(14));
    }

    /** The document leaves it open; the class reads: a call that throws changes nothing. */
    static void promise4RefusedNextLeavesAll() {
        BoundedMachines x = searchedAndRun();
        CHECKS.throwsArgument("no state", () -> x.next(0, 0));
        CHECKS.throwsArgument("no node", () -> x.next(1, 8));
        isSearchedAndRun(x);
    }

    /** "A pair more: how many there are." */
    static void promise5AnswersHowManyThereAre() {
        BoundedMachines x = new BoundedMachines(2);
        CHECKS.due("none yet", 0, () -> x.count(5));
        CHECKS.due("the first", 1, () -> x.compare(0, 1));
        CHECKS.due("the same again", 2, () -> x.compare(0, 1));
        CHECKS.due("the other way round", 3, () -> x.compare(1, 0));
        CHECKS.due("a node and itself", 4, () -> x.compare(1, 1));
        CHECKS.due("as count tells", 4, () -> x.count(5));
    }

    private static void isNoPair(int wrong) {
        BoundedMachines x = new BoundedMachines(2);
        CHECKS.throwsArgument("compare(" + wrong + ", 0)", () -> x.compare(wrong, 0));
        CHECKS.throwsArgument("compare(0, " + wrong + ")", () -> x.compare(0, wrong));
        CHECKS.throwsArgument("compare(" + wrong + ", " + wrong + ")", () -> x.compare(wrong, wrong));
        CHECKS.due("no pair came of it", 0, () -> x.count(5));
    }

    /** "IllegalArgumentException, when there are no such nodes": too small */
    static void promise5NodesBelowZero() {
        isNoPair(-1);
        isNoPair(Integer.MIN_VALUE);
    }

    /** "IllegalArgumentException, when there are no such nodes": too large */
    static void promise5NodesTooLarge() {
        isNoPair(2);
        isNoPair(99);
        isNoPair(100);
        isNoPair(Integer.MAX_VALUE);
    }

    /** "no such nodes": the first and the last one that there are will do, up to the hundredth */
    static void promise5FirstAndLastNode() {
        BoundedMachines x = Machines.fullOfNodes(4);
        CHECKS.due("the first and the last", 1, () -> x.compare(0, 99));
        CHECKS.due("the last and the first", 2, () -> x.compare(99, 0));
        CHECKS.due("bit 0 against YES", true, () -> x.cycle(0));
        CHECKS.due("both true", false, () -> x.cycle(1));
    }

    /** "UnsupportedOperationException, when there are sixteen": the sixteenth is taken, and asked */
    static void promise5SixteenthPair() {
        BoundedMachines x = new BoundedMachines(2);
        for (int pair = 1; pair <= 15; pair++) {
            CHECKS.due("pair " + pair, pair, () -> x.compare(0, 0));
        }
        CHECKS.due("pair 16", 16, () -> x.compare(0, 1));
        CHECKS.due("it differs", true, () -> x.cycle(2));
        CHECKS.due("as the last one", 15, () -> x.count(7));
    }

    /** "UnsupportedOperationException, when there are sixteen" */
    static void promise5SeventeenthPair() {
        BoundedMachines x = Machines.fullOfPairs();
        CHECKS.throwsUnsupported("compare", () -> x.compare(0, 1));
        CHECKS.throwsUnsupported("compare of one that is there", () -> x.compare(0, 0));
        CHECKS.due("pairs", 16, () -> x.count(5));
        CHECKS.due("it is not asked", false, () -> x.cycle(1));
    }

    /** "Of several exceptions the first one told is thrown." */
    static void promise5FirstExceptionTold() {
        BoundedMachines x = Machines.fullOfPairs();
        CHECKS.throwsArgument("no left node, sixteen pairs", () -> x.compare(-1, 0));
        CHECKS.throwsArgument("no right node, sixteen pairs", () -> x.compare(0, 2));
    }

    /** The document leaves it open; the class reads: a call that throws changes nothing. */
    static void promise5RefusedCompareLeavesAll() {
        BoundedMachines x = searchedAndRun();
        CHECKS.throwsArgument("no such node", () -> x.compare(0, 8));
        isSearchedAndRun(x);
        refusedWhenFullLeavesAll(Machines.fullOfPairs(), full -> full.compare(0, 1));
    }
}
