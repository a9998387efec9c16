/** Promises 12 to 16, the run by hand and the counts: a test for each sentence that has an edge. */
public final class HandEdgeTests {
    private static final Checks CHECKS = new Checks();

    private HandEdgeTests() {
    }

    public static void main(String[] args) {
        CHECKS.runTests(HandEdgeTests.class, "promise12", "promise13", "promise14", "promise15", "promise16");
        CHECKS.end("HandEdgeTests");
    }

    /** The least program is 1, 1, 0, and it is known. */
    private static BoundedMachines found() {
        BoundedMachines x = Machines.counterAgainstNo(2);
        CHECKS.due("search", 0, () -> x.search(20));
        return x;
    }

    /** "Begins a run by hand: all states as at first." */
    static void promise12StatesAsAtFirst() {
        BoundedMachines x = Machines.flipper();
        x.cycle(2);
        x.begin();
        CHECKS.due("the state", true, () -> x.truth(2));
        CHECKS.due("in the next cycle too", false, () -> x.cycle(1));
        x.begin();
        CHECKS.due("with the other word", true, () -> x.cycle(0));
    }

    /** "Begins a run by hand": no cycle is in it yet, and no pair differed */
    static void promise12NoCycleYet() {
        BoundedMachines x = Machines.flipper();
        CHECKS.due("a cycle that differs", true, () -> x.cycle(2));
        x.begin();
        CHECKS.due("cycles", 0, () -> x.count(6));
        CHECKS.due("pair", -1, () -> x.count(7));
    }

    /** "Begins a run by hand": before any cycle, and again and again, it changes nothing */
    static void promise12AgainAndAgain() {
        BoundedMachines x = Machines.flipper();
        x.begin();
        x.begin();
        CHECKS.due("the state", true, () -> x.truth(2));
        CHECKS.due("cycles", 0, () -> x.count(6));
        CHECKS.due("a cycle", true, () -> x.cycle(0));
        x.begin();
        x.begin();
        CHECKS.due("the same cycle", true, () -> x.cycle(0));
        CHECKS.due("is the first again", 1, () -> x.count(6));
    }

    /** "all states as at first": there are none */
    static void promise12WithoutStates() {
        BoundedMachines x = new BoundedMachines(1);
        x.begin();
        CHECKS.due("cycles", 0, () -> x.count(6));
        x.cycle(1);
        x.begin();
        CHECKS.due("cycles after one", 0, () -> x.count(6));
        CHECKS.due("the word bit", false, () -> x.truth(0));
    }

    /** "all states as at first": fourteen, true and false in turns */
    static void promise12FourteenStates() {
        BoundedMachines x = new BoundedMachines(1);
        for (int s = 0; s < 14; s++) {
            x.next(x.state(s % 2, s % 3 == 0), 0);
        }
        x.cycle(1);
        x.cycle(1);
        CHECKS.due("all are true now", true, () -> x.truth(2));
        x.begin();
        for (int s = 0; s < 14; s++) {
            int node = 1 + s;
            CHECKS.due("state " + s, s % 3 == 0, () -> x.truth(node));
        }
    }

    /** "Begins a run by hand": what was told and searched stays */
    static void promise12LeavesTheSearch() {
        BoundedMachines x = found();
        x.begin();
        CHECKS.due("length", 3, x::length);
        CHECKS.due("clear", 2, x::clear);
        CHECKS.due("seen", 3, x::seen);
        CHECKS.due("nodes", 8, () -> x.count(1));
    }

    private static void hasBits(BoundedMachines x, int word, int want) {
        x.cycle(word);
        for (int k = 0; k < x.count(0); k++) {
            int asked = k;
            CHECKS.due("bit " + k + " of " + word, (want >> k & 1) != 0, () -> x.truth(asked));
        }
    }

    /** "by a word (its lowest B bits)": the first one that is too large is word 0 again */
    static void promise13WordTooLarge() {
        for (int bits = 1; bits <= 4; bits++) {
            BoundedMachines x = new BoundedMachines(bits);
            int words = 1 << bits;
            hasBits(x, words - 1, words - 1);
            hasBits(x, words, 0);
            hasBits(x, words + 1, 1);
            hasBits(x, 2 * words - 1, words - 1);
            hasBits(x, Integer.MAX_VALUE, words - 1);
        }
    }

    /** "by a word (its lowest B bits)": below 0 they are those of its two's complement */
    static void promise13WordBelowZero() {
        for (int bits = 1; bits <= 4; bits++) {
            BoundedMachines x = new BoundedMachines(bits);
            int words = 1 << bits;
            hasBits(x, -1, words - 1);
            hasBits(x, -2, words - 2);
            hasBits(x, -words, 0);
            hasBits(x, Integer.MIN_VALUE, 0);
            hasBits(x, Integer.MIN_VALUE + 1, 1);
        }
    }

    /** "(its lowest B bits)": the others do nothing to the states or to what differs */
    static void promise13OtherBitsDoNothing() {
        BoundedMachines x = new BoundedMachines(1);
        int state = x.state(0, false);
        x.next(state, 0);
        x.compare(0, x.gate(4, 0, 0));
        CHECKS.due("cycle(-2)", false, () -> x.cycle(-2));
        CHECKS.due("cycle(7)", true, () -> x.cycle(7));
        CHECKS.due("the state after -2", false, () -> x.truth(state));
        CHECKS.due("cycle(16)", false, () -> x.cycle(16));
        CHECKS.due("the state after 7", true, () -> x.truth(state));
    }

    /** "whether the machines differ in it": in this cycle, not in one before */
    static void promise13WhetherTheyDifferInIt() {
        BoundedMachines x = Machines.flipper();
        boolean[] want = {false, true, false, true};
        for (int cycle = 0; cycle < want.length; cycle++) {
            CHECKS.due("word 1 in cycle " + cycle, want[cycle], () -> x.cycle(1));
        }
    }

    /** "whether the machines differ in it": by the states as they are in it, not as they are behind it */
    static void promise13ByTheStatesInIt() {
        BoundedMachines x = new BoundedMachines(1);
        int state = x.state(0, false);
        x.next(state, 0);
        x.compare(state, 0);
        CHECKS.due("0 and 1", true, () -> x.cycle(1));
        CHECKS.due("1 and 1", false, () -> x.cycle(1));
        CHECKS.due("1 and 0", true, () -> x.cycle(0));
        CHECKS.due("0 and 0", false, () -> x.cycle(0));
    }

    /** "One cycle by hand": it counts, whether they differ or not */
    static void promise13OneCycle() {
        BoundedMachines x = Machines.flipper();
        for (int cycles = 1; cycles <= 5; cycles++) {
            x.cycle(1);
            CHECKS.due("cycles", cycles, () -> x.count(6));
        }
    }

    /** "One cycle by hand": without states and pairs the machines never differ */
    static void promise13WithoutAnything() {
        BoundedMachines x = new BoundedMachines(4);
        CHECKS.due("cycle(0)", false, () -> x.cycle(0));
        CHECKS.due("cycle(-1)", false, () -> x.cycle(-1));
        CHECKS.due("cycles", 2, () -> x.count(6));
    }

    /** "One cycle by hand": what was searched stays, and a search under way goes on as if there were none */
    static void promise13LeavesTheSearch() {
        BoundedMachines x = Machines.counterAgainstNo(3);
        x.search(2);
        x.cycle(1);
        CHECKS.due("clear", 2, x::clear);
        CHECKS.due("seen", 3, x::seen);
        CHECKS.due("search", 0, () -> x.search(20));
        CHECKS.due("length", 5, x::length);
        x.cycle(1);
        CHECKS.due("length after a cycle", 5, x::length);
        CHECKS.due("search leaves the run by hand too", 2, () -> x.count(6));
    }

    /** "IndexOutOfBoundsException, when there is no such node.": too small */
    static void promise14NodeBelowZero() {
        BoundedMachines x = Machines.flipper();
        CHECKS.throwsIndex("truth(-1)", () -> x.truth(-1));
        CHECKS.throwsIndex("truth(the smallest)", () -> x.truth(Integer.MIN_VALUE));
        x.cycle(0);
        CHECKS.throwsIndex("truth(-1) after a cycle", () -> x.truth(-1));
    }

    /** "IndexOutOfBoundsException, when there is no such node.": too large */
    static void promise14NodeTooLarge() {
        BoundedMachines x = Machines.flipper();
        for (int node : new int[] {5, 99, 100, Integer.MAX_VALUE}) {
            CHECKS.throwsIndex("truth(" + node + ")", () -> x.truth(node));
        }
        x.cycle(0);
        CHECKS.throwsIndex("truth(5) after a cycle", () -> x.truth(5));
    }

    /** "no such node": the first and the last one are such, up to the hundredth */
    static void promise14FirstAndLastNode() {
        BoundedMachines x = Machines.fullOfNodes(1);
        x.cycle(1);
        CHECKS.due("truth(0)", true, () -> x.truth(0));
        CHECKS.due("truth(99)", true, () -> x.truth(99));
        CHECKS.throwsIndex("truth(100)", () -> x.truth(100));
    }

    /** "A node's truth in the latest cycle by hand": not in one before */
    static void promise14LatestCycle() {
        BoundedMachines x = Machines.flipper();
        x.cycle(3);
        x.cycle(1);
        CHECKS.due("bit 0", true, () -> x.truth(0));
        CHECKS.due("bit 1", false, () -> x.truth(1));
        CHECKS.due("the state", false, () -> x.truth(2));
        CHECKS.due("NOT of it", true, () -> x.truth(3));
        CHECKS.due("YES", true, () -> x.truth(4));
    }

    /** "(of a state: as it was in it)": not as it is behind it */
    static void promise14StateAsItWas() {
        BoundedMachines x = Machines.flipper();
        x.cycle(0);
        CHECKS.due("the state in the first cycle", true, () -> x.truth(2));
        CHECKS.due("NOT of it", false, () -> x.truth(3));
        x.cycle(0);
        CHECKS.due("the state in the second", false, () -> x.truth(2));
        CHECKS.due("NOT of it in the second", true, () -> x.truth(3));
    }

    /** "before any: of a state as at first" */
    static void promise14StateBeforeAnyCycle() {
        BoundedMachines x = new BoundedMachines(1);
        int yes = x.state(0, true);
        int no = x.state(1, false);
        x.next(yes, no);
        x.next(no, yes);
        CHECKS.due("the true one", true, () -> x.truth(yes));
        CHECKS.due("the false one", false, () -> x.truth(no));
    }

    /** "before any: .. of others false": also of gates that are always true in a cycle */
    static void promise14OthersBeforeAnyCycle() {
        BoundedMachines x = new BoundedMachines(2);
        int state = x.state(0, true);
        int yes = x.gate(5, 0, 0);
        int not = x.gate(3, 0, 0);
        int or = x.gate(1, state, state);
        for (int node : new int[] {0, 1, yes, not, or}) {
            CHECKS.due("truth(" + node + ")", false, () -> x.truth(node));
        }
        x.cycle(0);
        for (int node : new int[] {yes, not, or}) {
            CHECKS.due("truth(" + node + ") in a cycle", true, () -> x.truth(node));
        }
    }

    /** "before any": begin() begins a run without a cycle (a choice: the latest cycle could be of a run before) */
    static void promise14AfterBegin() {
        BoundedMachines x = Machines.flipper();
        x.cycle(3);
        x.cycle(3);
        x.begin();
        CHECKS.due("the state", true, () -> x.truth(2));
        for (int node : new int[] {0, 1, 3, 4}) {
            CHECKS.due("truth(" + node + ")", false, () -> x.truth(node));
        }
    }

    /** "the latest cycle by hand": the last one of a program that was replayed is one */
    static void promise14AfterReplay() {
        BoundedMachines x = found();
        x.cycle(1);
        x.replay();
        CHECKS.due("the word bit", false, () -> x.truth(0));
        CHECKS.due("the low state", false, () -> x.truth(1));
        CHECKS.due("the top state", true, () -> x.truth(4));
    }

    /** "NONE without such a program." */
    static void promise15WithoutAProgram() {
        BoundedMachines x = Machines.counterAgainstNo(2);
        CHECKS.due("before any search", -1, x::replay);
        x.search(2);
        CHECKS.due("while the search goes on", -1, x::replay);
        BoundedMachines clear = Machines.counterAgainstItself(2);
        clear.search(20);
        CHECKS.due("when all is clear", -1, clear::replay);
        BoundedMachines changed = found();
        changed.compare(0, 0);
        CHECKS.due("after a change", -1, changed::replay);
    }

    /** The document leaves it open; the class reads: without a program nothing is run, and the run by hand stays. */
    static void promise15WithoutAProgramLeavesTheHand() {
        BoundedMachines x = Machines.flipper();
        x.cycle(2);
        CHECKS.due("replay", -1, x::replay);
        CHECKS.due("cycles", 1, () -> x.count(6));
        CHECKS.due("pair", 0, () -> x.count(7));
        CHECKS.due("bit 1", true, () -> x.truth(1));
        CHECKS.due("the next cycle goes on", true, () -> x.cycle(1));
    }

    /** "the first cycle (from 0) in which machines differ": of one word it is 0 */
    static void promise15OneWord() {
        BoundedMachines x = new BoundedMachines(1);
        x.compare(0, x.gate(4, 0, 0));
        x.search(1);
        CHECKS.due("replay", 0, x::replay);
        CHECKS.due("cycles", 1, () -> x.count(6));
        CHECKS.due("its word", true, () -> x.truth(0));
    }

    /** "the first cycle (from 0) in which machines differ": the last one, since the program is the shortest */
    static void promise15LastCycle() {
        BoundedMachines x = found();
        CHECKS.due("replay", 2, x::replay);
        CHECKS.due("replay again", 2, x::replay);
    }

    /** "from the beginning": wherever the run by hand was, and it is left behind */
    static void promise15FromTheBeginning() {
        BoundedMachines x = found();
        x.cycle(1);
        CHECKS.due("after a cycle", 2, x::replay);
        CHECKS.due("its cycles alone count", 3, () -> x.count(6));
        x.cycle(1);
        x.cycle(1);
        CHECKS.due("after cycles behind it", 2, x::replay);
        CHECKS.due("its cycles alone count again", 3, () -> x.count(6));
    }

    /** "Runs the least program by hand": a run by hand goes on behind it */
    static void promise15RunsByHand() {
        BoundedMachines x = found();
        x.replay();
        CHECKS.due("pair", 0, () -> x.count(7));
        CHECKS.due("the counter is at two", true, () -> x.cycle(1));
        CHECKS.due("and then at three", true, () -> x.cycle(1));
        CHECKS.due("and then at zero", false, () -> x.cycle(0));
        CHECKS.due("cycles", 6, () -> x.count(6));
    }

    /** "Runs the least program by hand": the longest one */
    static void promise15LongestProgram() {
        BoundedMachines x = Machines.longestProgram();
        x.search(20000);
        CHECKS.due("replay", 16383, x::replay);
        CHECKS.due("cycles", 16384, () -> x.count(6));
        CHECKS.due("pair", 0, () -> x.count(7));
    }

    /** "Runs the least program by hand": what was searched stays */
    static void promise15LeavesTheSearch() {
        BoundedMachines x = found();
        x.replay();
        CHECKS.due("length", 3, x::length);
        CHECKS.due("clear", 2, x::clear);
        CHECKS.due("seen", 3, x::seen);
        CHECKS.due("search", 0, () -> x.search(1));
    }

    /** "B (0)": from 1 to 4, and it never changes */
    static void promise16Bits() {
        for (int bits = 1; bits <= 4; bits++) {
            BoundedMachines x = Machines.fullOfNodes(bits);
            CHECKS.due("count(0)", bits, () -> x.count(0));
        }
    }

    /** "nodes (1)": from B to 100 */
    static void promise16Nodes() {
        BoundedMachines x = new BoundedMachines(3);
        CHECKS.due("the word bits alone", 3, () -> x.count(1));
        x.state(0, true);
        x.gate(5, 0, 0);
        CHECKS.due("a state and a gate", 5, () -> x.count(1));
        Machines.fillWithGates(x, 100);
        CHECKS.due("all", 100, () -> x.count(1));
        Checks.outcome(() -> x.gate(5, 0, 0));
        CHECKS.due("one that was refused does not count", 100, () -> x.count(1));
    }

    private static void statesOf(int side, int own, int others) {
        BoundedMachines x = new BoundedMachines(1);
        x.gate(5, 0, 0);
        CHECKS.due("none of its own", 0, () -> x.count(own));
        for (int s = 1; s <= 14; s++) {
            x.state(side, false);
            CHECKS.due(s + " of its own", s, () -> x.count(own));
            CHECKS.due("none of the other", 0, () -> x.count(others));
        }
        Checks.outcome(() -> x.state(side, false));
        CHECKS.due("one that was refused does not count", 14, () -> x.count(own));
    }

    /** "states of side 0 (2)": from 0 to 14 */
    static void promise16StatesOfSideZero() {
        statesOf(0, 2, 3);
    }

    /** "of side 1 (3)": from 0 to 14 */
    static void promise16StatesOfSideOne() {
        statesOf(1, 3, 2);
    }

    /** "gates (4)": from 0 to 100 less B, states are none of them */
    static void promise16Gates() {
        BoundedMachines x = new BoundedMachines(1);
        x.state(0, true);
        CHECKS.due("none", 0, () -> x.count(4));
        x.gate(5, 0, 0);
        x.state(1, true);
        CHECKS.due("one", 1, () -> x.count(4));
        Checks.outcome(() -> x.gate(6, 0, 0));
        CHECKS.due("one that was refused does not count", 1, () -> x.count(4));
        CHECKS.due("all with B = 1", 99, () -> Machines.fullOfNodes(1).count(4));
        CHECKS.due("all with B = 4", 96, () -> Machines.fullOfNodes(4).count(4));
    }

    /** "pairs (5)": from 0 to 16 */
    static void promise16Pairs() {
        BoundedMachines x = new BoundedMachines(1);
        CHECKS.due("none", 0, () -> x.count(5));
        for (int pairs = 1; pairs <= 16; pairs++) {
            x.compare(0, 0);
            CHECKS.due("pairs", pairs, () -> x.count(5));
        }
        Checks.outcome(() -> x.compare(0, 0));
        CHECKS.due("one that was refused does not count", 16, () -> x.count(5));
    }

    /** "cycles by hand (6)": of the run that goes on, from 0 */
    static void promise16Cycles() {
        BoundedMachines x = new BoundedMachines(1);
        CHECKS.due("none", 0, () -> x.count(6));
        x.cycle(0);
        x.cycle(1);
        CHECKS.due("two", 2, () -> x.count(6));
        x.search(20);
        CHECKS.due("a search has none", 2, () -> x.count(6));
        x.begin();
        CHECKS.due("none again", 0, () -> x.count(6));
    }

    /** "the pair that differed first in the latest cycle by hand": of several the one that was told first */
    static void promise16PairThatDifferedFirst() {
        BoundedMachines x = new BoundedMachines(3);
        x.compare(0, 0);
        x.compare(0, 1);
        x.compare(0, 2);
        x.cycle(1);
        CHECKS.due("pairs 1 and 2 differ", 1, () -> x.count(7));
        x.cycle(4);
        CHECKS.due("pair 2 differs", 2, () -> x.count(7));
        x.cycle(2);
        CHECKS.due("pair 1 differs", 1, () -> x.count(7));
    }

    /** "the pair that differed first": numbered from 0 to 15 */
    static void promise16FirstAndLastPair() {
        BoundedMachines x = new BoundedMachines(3);
        x.compare(0, 1);
        for (int pair = 1; pair < 15; pair++) {
            x.compare(0, 0);
        }
        x.compare(0, 2);
        x.cycle(2);
        CHECKS.due("the first", 0, () -> x.count(7));
        x.cycle(4);
        CHECKS.due("the last", 15, () -> x.count(7));
    }

    /** "(7; NONE)": no pair differed in the latest cycle, though one did before */
    static void promise16NoPairDiffered() {
        BoundedMachines x = new BoundedMachines(2);
        x.compare(0, 1);
        CHECKS.due("before any cycle", -1, () -> x.count(7));
        x.cycle(1);
        CHECKS.due("it differed", 0, () -> x.count(7));
        x.cycle(3);
        CHECKS.due("it did not", -1, () -> x.count(7));
        x.cycle(1);
        x.begin();
        CHECKS.due("after begin", -1, () -> x.count(7));
    }

    /** "NONE for another what.": too small */
    static void promise16WhatBelowZero() {
        BoundedMachines x = Machines.flipper();
        CHECKS.due("count(-1)", -1, () -> x.count(-1));
        CHECKS.due("count(-2)", -1, () -> x.count(-2));
        CHECKS.due("count(the smallest)", -1, () -> x.count(Integer.MIN_VALUE));
    }

    /** "NONE for another what.": too large */
    static void promise16WhatAboveSeven() {
        BoundedMachines x = Machines.flipper();
        x.cycle(2);
        CHECKS.due("count(8)", -1, () -> x.count(8));
        CHECKS.due("count(9)", -1, () -> x.count(9));
        CHECKS.due("count(the largest)", -1, () -> x.count(Integer.MAX_VALUE));
    }
}
