/** What stands before and behind the promises, "What it is", "Terms" and "Not promised" (the face is in FaceTests). */
public final class TermsTests {
    private static final Checks CHECKS = new Checks();

    private TermsTests() {
    }

    public static void main(String[] args) {
        CHECKS.runTests(TermsTests.class, "whatItIs", "terms", "notPromised");
        CHECKS.end("TermsTests");
    }

    /** "Two machines of gates side by side that get the same words" */
    static void whatItIsBothSidesGetTheSameWords() {
        BoundedMachines x = new BoundedMachines(4);
        for (int bit = 0; bit < 4; bit++) {
            int left = x.state(0, false);
            int right = x.state(1, false);
            x.next(left, bit);
            x.next(right, bit);
            x.compare(left, right);
        }
        CHECKS.due("search", 2, () -> x.search(20000));
        for (int word = 0; word < 16; word++) {
            int given = word;
            CHECKS.due("cycle(" + word + ")", false, () -> x.cycle(given));
        }
    }

    /** "An object is used for at most 512 calls after it has been made" */
    static void whatItIsThe512thCallStillAnswers() {
        BoundedMachines x = new BoundedMachines(1);
        for (int calls = 0; calls < 511; calls++) {
            x.cycle(calls);
        }
        CHECKS.due("count(6) as call 512", 511, () -> x.count(6));

        BoundedMachines refusing = new BoundedMachines(1);
        for (int calls = 0; calls < 511; calls++) {
            Checks.outcome(() -> refusing.gate(0, 0, 1));
        }
        CHECKS.throwsArgument("gate of no node as call 512", () -> refusing.gate(0, 0, 1));
    }

    /** "An object is used for at most 512 calls after it has been made": the dearest ones that there are */
    static void whatItIsThe512thCallStillSearches() {
        BoundedMachines x = Machines.mostLevels();
        int callsThatMadeIt = 71;
        for (int left = 512 - callsThatMadeIt; left > 1; left -= 2) {
            x.next(2, 3);
            CHECKS.due("search with " + left + " calls left", 2, () -> x.search(20000));
        }
        CHECKS.due("seen as call 512", 16384, x::seen);
    }

    /** "NODES have a truth in each cycle": those of each kind, in one cycle after the other */
    static void termsNodesHaveATruthInEachCycle() {
        BoundedMachines x = new BoundedMachines(1);
        int state = x.state(1, true);
        x.next(state, 0);
        for (int op = 0; op <= 5; op++) {
            x.gate(op, 0, state);
        }
        // word bit, state, AND, OR, EXCLUSIVE OR, NOT, NO, YES
        String[] want = {"01011101", "00000101", "10011001", "11110001", "01011101"};
        int[] words = {0, 0, 1, 1, 0};
        for (int cycle = 0; cycle < words.length; cycle++) {
            x.cycle(words[cycle]);
            StringBuilder got = new StringBuilder();
            for (int node = 0; node < x.count(1); node++) {
                got.append(x.truth(node) ? '1' : '0');
            }
            CHECKS.same("cycle " + cycle, want[cycle], got.toString());
        }
    }

    /** "first B WORD BITS (node k is bit k of the cycle's word)" */
    static void termsWordBitsAreTheFirstNodes() {
        for (int bits = 1; bits <= 4; bits++) {
            BoundedMachines x = new BoundedMachines(bits);
            for (int word = 0; word < 1 << bits; word++) {
                x.cycle(word);
                for (int k = 0; k < bits; k++) {
                    int asked = k;
                    CHECKS.due("bit " + k + " of " + word, (word >> k & 1) != 0, () -> x.truth(asked));
                }
            }
            int behind = bits;
            CHECKS.throwsIndex("no word bit " + bits, () -> x.truth(behind));
        }
    }

    /** "numbered from 0: first B WORD BITS .., then, as they are told, STATES .. and GATES" */
    static void termsNodesAreNumberedAsTheyAreTold() {
        for (int bits = 1; bits <= 4; bits++) {
            BoundedMachines x = new BoundedMachines(bits);
            CHECKS.due("the first state", bits, () -> x.state(1, true));
            CHECKS.due("a gate", bits + 1, () -> x.gate(5, 0, 0));
            CHECKS.due("a gate behind it", bits + 2, () -> x.gate(3, 0, 0));
            CHECKS.due("a state behind them", bits + 3, () -> x.state(0, true));
            x.next(bits, 0);
            x.compare(0, 0);
            CHECKS.due("next and compare make no node", bits + 4, () -> x.gate(4, 0, 0));
        }
    }

    /** "STATES of one of both SIDES (each with a truth at first" */
    static void termsStateHasItsTruthAtFirst() {
        BoundedMachines x = new BoundedMachines(1);
        for (int side = 0; side <= 1; side++) {
            int yes = x.state(side, true);
            int no = x.state(side, false);
            x.next(yes, 0);
            x.next(no, 0);
        }
        for (int word = 0; word <= 1; word++) {
            x.begin();
            x.cycle(word);
            for (int node = 1; node <= 4; node++) {
                int asked = node;
                CHECKS.due("truth(" + node + ") in the first cycle", node % 2 == 1, () -> x.truth(asked));
            }
        }
    }

    /** "a node told whose truth it has in the next cycle; itself, as long as none is told" */
    static void termsStateKeepsItselfAsLongAsNoneIsTold() {
        BoundedMachines x = new BoundedMachines(2);
        int yes = x.state(0, true);
        int no = x.state(1, false);
        for (int word = 0; word < 4; word++) {
            x.cycle(word);
            CHECKS.due("the true one in cycle " + word, true, () -> x.truth(yes));
            CHECKS.due("the false one in cycle " + word, false, () -> x.truth(no));
        }
        CHECKS.due("no other row ever comes", 2, () -> x.search(1));
    }

    /** "a node told whose truth it has in the next cycle": a word bit, a state of the other side, a gate told later */
    static void termsStateHasTheTruthOfAnyNode() {
        BoundedMachines x = new BoundedMachines(1);
        int ofBit = x.state(0, false);
        int ofState = x.state(1, false);
        int ofGate = x.state(0, false);
        int later = x.gate(3, ofGate, 0);
        x.next(ofBit, 0);
        x.next(ofState, ofBit);
        x.next(ofGate, later);
        boolean[][] want = {{false, false, false}, {true, false, true}, {false, true, false}, {false, false, true}};
        for (int cycle = 0; cycle < want.length; cycle++) {
            x.cycle(cycle == 0 ? 1 : 0);
            CHECKS.due("of the word bit in cycle " + cycle, want[cycle][0], () -> x.truth(ofBit));
            CHECKS.due("of the other state in cycle " + cycle, want[cycle][1], () -> x.truth(ofState));
            CHECKS.due("of the gate in cycle " + cycle, want[cycle][2], () -> x.truth(ofGate));
        }
    }

    /** A gate's truth under each word of two bits, and that of a gate over one node twice. */
    private static void gateHas(int op, boolean[] want, boolean[] wantOfOneTwice) {
        BoundedMachines x = new BoundedMachines(2);
        int gate = x.gate(op, 0, 1);
        int ofOneTwice = x.gate(op, 1, 1);
        for (int word = 0; word < 4; word++) {
            x.cycle(word);
            CHECKS.due("by word " + word, want[word], () -> x.truth(gate));
            CHECKS.due("of node 1 twice by word " + word, wantOfOneTwice[word], () -> x.truth(ofOneTwice));
        }
    }

    /** "0 AND" */
    static void termsGateAnd() {
        gateHas(0, new boolean[] {false, false, false, true}, new boolean[] {false, false, true, true});
    }

    /** "1 OR" */
    static void termsGateOr() {
        gateHas(1, new boolean[] {false, true, true, true}, new boolean[] {false, false, true, true});
    }

    /** "2 EXCLUSIVE OR of two nodes before" */
    static void termsGateExclusiveOr() {
        gateHas(2, new boolean[] {false, true, true, false}, new boolean[] {false, false, false, false});
    }

    /** "3 NOT of one" */
    static void termsGateNot() {
        gateHas(3, new boolean[] {true, false, true, false}, new boolean[] {true, true, false, false});
    }

    /** "4 NO .. (without any)" */
    static void termsGateNo() {
        gateHas(4, new boolean[4], new boolean[4]);
    }

    /** "5 YES (without any)" */
    static void termsGateYes() {
        boolean[] always = {true, true, true, true};
        gateHas(5, always, always);
    }

    /** "of two nodes before": the gate's own number, and those behind it, are none */
    static void termsGateIsNoNodeBeforeItself() {
        for (int op = 0; op <= 3; op++) {
            BoundedMachines x = new BoundedMachines(2);
            int asked = op;
            CHECKS.throwsArgument("op " + op + " of itself", () -> x.gate(asked, 2, 2));
            CHECKS.throwsArgument("op " + op + " of one behind it", () -> x.gate(asked, 3, 3));
            CHECKS.due("op " + op + " of the last node before", 2, () -> x.gate(asked, 1, 1));
            CHECKS.due("op " + op + " of the gate before", 3, () -> x.gate(asked, 2, 2));
        }
    }

    /** B is 2; of side 0 node 2 is false and node 3 true for ever, of side 1 node 4 true; node 5 is AND of the word. */
    private static BoundedMachines nodesOfAllKinds() {
        BoundedMachines x = new BoundedMachines(2);
        x.state(0, false);
        x.state(0, true);
        x.state(1, true);
        x.gate(0, 0, 1);
        return x;
    }

    /** "PAIRS of nodes are COMPARED": of any nodes, also two word bits, two states of one side, a state and a gate */
    static void termsPairsAreOfAnyNodes() {
        int[][] pairs = {{0, 1}, {2, 3}, {3, 4}, {4, 5}, {5, 1}, {0, 2}};
        boolean[] differsByWordTwo = {true, true, false, true, true, false};
        for (int pair = 0; pair < pairs.length; pair++) {
            BoundedMachines x = nodesOfAllKinds();
            int a = pairs[pair][0];
            int b = pairs[pair][1];
            CHECKS.due("compare(" + a + ", " + b + ")", 1, () -> x.compare(a, b));
            CHECKS.due("they differ by word 2", differsByWordTwo[pair], () -> x.cycle(2));
        }
    }

    /** "in a cycle the machines DIFFER, if some pair has two truths": either way round */
    static void termsPairWithTwoTruthsDiffers() {
        BoundedMachines x = new BoundedMachines(2);
        x.compare(0, 1);
        boolean[] want = {false, true, true, false};
        for (int word = 0; word < 4; word++) {
            int given = word;
            CHECKS.due("cycle(" + word + ")", want[word], () -> x.cycle(given));
        }
    }

    /** "if some pair has two truths": without a pair, or by a node and itself, they never do */
    static void termsNoPairWithTwoTruths() {
        BoundedMachines without = new BoundedMachines(4);
        BoundedMachines byItself = new BoundedMachines(4);
        byItself.compare(2, 2);
        for (int word = 0; word < 16; word++) {
            int given = word;
            CHECKS.due("without a pair, word " + word, false, () -> without.cycle(given));
            CHECKS.due("a node and itself, word " + word, false, () -> byItself.cycle(given));
        }
        CHECKS.due("search without a pair", 2, () -> without.search(20000));
        CHECKS.due("search by a node and itself", 2, () -> byItself.search(20000));
    }

    /** "if some pair has two truths": one of sixteen is enough, the first or the last */
    static void termsOnePairOfSixteenIsEnough() {
        for (int place : new int[] {0, 7, 15}) {
            BoundedMachines x = new BoundedMachines(2);
            for (int pair = 0; pair < 16; pair++) {
                x.compare(0, pair == place ? 1 : 0);
            }
            CHECKS.due("cycle by pair " + place, true, () -> x.cycle(1));
            CHECKS.due("search by pair " + place, 0, () -> x.search(1));
        }
    }

    /** "A PROGRAM is a row of words (0 .. 2 to the power B, less 1)": the largest one */
    static void termsLargestWordOfAProgram() {
        for (int bits = 1; bits <= 4; bits++) {
            BoundedMachines x = new BoundedMachines(bits);
            int all = x.gate(5, 0, 0);
            for (int k = 0; k < bits; k++) {
                all = x.gate(0, all, k);
            }
            int no = x.gate(4, 0, 0);
            x.compare(all, no);
            CHECKS.due("search with B = " + bits, 0, () -> x.search(1));
            CHECKS.due("word(0) with B = " + bits, (1 << bits) - 1, () -> x.word(0));
        }
    }

    /** "A PROGRAM is a row of words (0 .. 2 to the power B, less 1)": the smallest one */
    static void termsSmallestWordOfAProgram() {
        for (int bits = 1; bits <= 4; bits++) {
            BoundedMachines x = new BoundedMachines(bits);
            x.compare(x.gate(5, 0, 0), x.gate(4, 0, 0));
            CHECKS.due("search with B = " + bits, 0, () -> x.search(1));
            CHECKS.due("word(0) with B = " + bits, 0, () -> x.word(0));
        }
    }

    /** "a row of words .., one a cycle": a program has as many words as its run has cycles */
    static void termsProgramHasOneWordACycle() {
        for (int states = 1; states <= 6; states++) {
            BoundedMachines x = Machines.counterAgainstNo(states);
            CHECKS.due("search", 0, () -> x.search(20000));
            x.replay();
            int words = (1 << states - 1) + 1;
            CHECKS.due("words with " + states + " states", words, x::length);
            CHECKS.due("cycles with " + states + " states", words, () -> x.count(6));
        }
    }

    /** "it is RUN from the beginning (all states as at first)": wherever the run by hand is */
    static void termsProgramIsRunFromTheBeginning() {
        BoundedMachines x = Machines.counterAgainstNo(2);
        x.cycle(1);
        x.cycle(1);
        CHECKS.due("search", 0, () -> x.search(20));
        CHECKS.due("length", 3, x::length);
        CHECKS.due("replay", 2, x::replay);
    }

    /** "nodes have their truths by the word and the states, then states take theirs": all of them at once */
    static void termsStatesTakeTheirTruthsTogether() {
        BoundedMachines x = new BoundedMachines(1);
        int a = x.state(0, true);
        int b = x.state(1, false);
        x.next(a, b);
        x.next(b, a);
        for (int cycle = 0; cycle < 4; cycle++) {
            x.cycle(0);
            CHECKS.due("the one in cycle " + cycle, cycle % 2 == 0, () -> x.truth(a));
            CHECKS.due("the other in cycle " + cycle, cycle % 2 == 1, () -> x.truth(b));
        }
        CHECKS.due("their two rows", 2, () -> x.search(20000));
        CHECKS.due("no row with both alike", 2, x::seen);
    }

    /** "of those that differ (in their last cycle)": in the last one, and in none before */
    static void termsLeastProgramDiffersInItsLastCycle() {
        BoundedMachines x = Machines.counterAgainstNo(4);
        CHECKS.due("search", 0, () -> x.search(20));
        x.begin();
        for (int k = 0; k < x.length(); k++) {
            int word = x.word(k);
            CHECKS.due("cycle " + k, k == x.length() - 1, () -> x.cycle(word));
        }
    }

    /** "THE LEAST program .. is the shortest one": also when a longer one has smaller words */
    static void termsShortestProgramIsLeast() {
        BoundedMachines x = new BoundedMachines(2);
        int later = x.state(0, false);
        x.next(later, x.gate(5, 0, 0));
        x.compare(x.gate(1, later, x.gate(0, 0, 1)), x.gate(4, 0, 0));
        CHECKS.due("search", 0, () -> x.search(20));
        CHECKS.due("length", 1, x::length);
        CHECKS.due("word(0)", 3, () -> x.word(0));
    }

    /** "of these the first one as words go (the first cycle's word counts first)": 1, 3 is before 2, 0 */
    static void termsFirstWordCountsFirst() {
        BoundedMachines x = new BoundedMachines(2);
        int low = x.state(0, false);
        int high = x.state(1, false);
        x.next(low, 0);
        x.next(high, 1);
        int byLow = x.gate(0, low, x.gate(0, 0, 1));
        int byHigh = x.gate(0, high, x.gate(3, 0, 0));
        x.compare(x.gate(1, byLow, byHigh), x.gate(4, 0, 0));
        CHECKS.due("search", 0, () -> x.search(20));
        CHECKS.due("length", 2, x::length);
        CHECKS.due("word(0)", 1, () -> x.word(0));
        CHECKS.due("word(1)", 3, () -> x.word(1));
    }

    /** "the first one as words go": of those with the same first word the second one counts */
    static void termsSecondWordCountsThen() {
        BoundedMachines x = new BoundedMachines(2);
        int later = x.state(0, false);
        x.next(later, x.gate(5, 0, 0));
        x.compare(x.gate(0, later, 1), x.gate(4, 0, 0));
        CHECKS.due("search", 0, () -> x.search(20));
        CHECKS.due("length", 2, x::length);
        CHECKS.due("word(0)", 0, () -> x.word(0));
        CHECKS.due("word(1)", 2, () -> x.word(1));
    }

    /** "ROWS of all states' truths": also of a state that nothing looks at, on either side */
    static void termsRowsAreOfAllStates() {
        for (int side = 0; side <= 1; side++) {
            BoundedMachines x = new BoundedMachines(1);
            int asked = x.state(1 - side, false);
            x.compare(asked, asked);
            int idle = x.state(side, false);
            CHECKS.due("both stay", 2, () -> x.search(20));
            CHECKS.due("one row", 1, x::seen);
            x.next(idle, 0);
            CHECKS.due("the one that nothing looks at changes", 2, () -> x.search(20));
            CHECKS.due("two rows", 2, x::seen);
        }
    }

    /** "LEVEL by level": all of a level is asked before what comes of it */
    static void termsLevelByLevel() {
        BoundedMachines x = Machines.widestLevels();
        int[] want = {1, 15, 240, 3840};
        for (int k = 0; k < want.length; k++) {
            int level = k;
            CHECKS.due("search(" + (k + 1) + ")", 1, () -> x.search(level + 1));
            CHECKS.due("levels that are clear", level + 1, x::clear);
            CHECKS.due("rows of the last of them", want[k], () -> x.level(level));
        }
    }

    /** "level 0 is the beginning": the one row of all states as at first, even if it never comes again */
    static void termsLevelZeroIsTheBeginning() {
        BoundedMachines x = new BoundedMachines(1);
        int once = x.state(1, true);
        int no = x.gate(4, 0, 0);
        x.next(once, no);
        CHECKS.due("search without a pair", 2, () -> x.search(20));
        CHECKS.due("level(0)", 1, () -> x.level(0));
        CHECKS.due("the row behind it", 1, () -> x.level(1));
        x.compare(once, no);
        CHECKS.due("search", 0, () -> x.search(20));
        CHECKS.due("length", 1, x::length);
        CHECKS.due("no level is clear", 0, x::clear);
    }

    /** "all rows, in the order in which they came, are asked": not in the order of the states' truths */
    static void termsRowsAreAskedAsTheyCame() {
        for (boolean crossed : new boolean[] {false, true}) {
            BoundedMachines x = new BoundedMachines(2);
            int a = x.state(0, false);
            int b = x.state(0, false);
            x.next(a, crossed ? 1 : 0);
            x.next(b, crossed ? 0 : 1);
            x.compare(x.gate(2, a, b), x.gate(4, 0, 0));
            CHECKS.due("search", 0, () -> x.search(20));
            CHECKS.due("word(0) of the row that came first", 1, () -> x.word(0));
            CHECKS.due("word(1)", 0, () -> x.word(1));
        }
    }

    /** "are asked with all words, the least first" */
    static void termsLeastWordIsAskedFirst() {
        BoundedMachines x = new BoundedMachines(4);
        x.compare(x.gate(1, 1, 2), x.gate(4, 0, 0));
        CHECKS.due("search", 0, () -> x.search(1));
        CHECKS.due("2 of 2 to 7 and 10 to 15", 2, () -> x.word(0));
    }

    /** "the first one with which the machines differ ends the search": nothing comes of the rows asked before it */
    static void termsOneThatDiffersEndsTheSearch() {
        BoundedMachines x = new BoundedMachines(2);
        int a = x.state(0, false);
        int b = x.state(1, false);
        int c = x.state(0, false);
        x.next(a, 0);
        x.next(b, 1);
        x.next(c, a);
        x.compare(x.gate(0, a, b), x.gate(4, 0, 0));
        CHECKS.due("search", 0, () -> x.search(20));
        CHECKS.due("the third row of level 1", 3, () -> x.word(0));
        CHECKS.due("level 1 is not clear", 1, x::clear);
        CHECKS.due("its three rows and the beginning", 4, x::seen);
        CHECKS.throwsIndex("there is no level 2", () -> x.level(2));
    }

    /** "Else level k is CLEAR" */
    static void termsLevelWithoutOneThatDiffersIsClear() {
        BoundedMachines x = Machines.counterAgainstNo(2);
        CHECKS.due("level 0", 1, () -> x.search(1));
        CHECKS.due("is clear", 1, x::clear);
        CHECKS.due("level 1", 1, () -> x.search(2));
        CHECKS.due("is clear too", 2, x::clear);
        CHECKS.due("level 2", 0, () -> x.search(3));
        CHECKS.due("is not", 2, x::clear);
    }

    /** "what comes of its rows .., if it was not there yet, is level k + 1": a row of a level before is not */
    static void termsRowThatWasThereComesNoMore() {
        BoundedMachines x = Machines.counterAgainstItself(2);
        CHECKS.due("search", 2, () -> x.search(20));
        for (int k = 0; k < 4; k++) {
            int asked = k;
            CHECKS.due("level(" + k + ")", 1, () -> x.level(asked));
        }
        CHECKS.due("the beginning does not come again", 0, () -> x.level(4));
    }

    /** "if it was not there yet": a row that comes of several words, or of several rows of a level, counts once */
    static void termsRowThatComesTwiceCountsOnce() {
        BoundedMachines x = new BoundedMachines(4);
        int a = x.state(0, false);
        int b = x.state(1, false);
        int c = x.state(1, false);
        x.next(a, 0);
        x.next(b, 1);
        x.next(c, x.gate(1, a, b));
        CHECKS.due("search", 2, () -> x.search(20));
        CHECKS.due("three rows of sixteen words", 3, () -> x.level(1));
        CHECKS.due("four rows of three rows", 4, () -> x.level(2));
        CHECKS.due("no row of four rows", 0, () -> x.level(3));
    }

    /** "what comes of its rows in the same order": the rows of level 2 are asked as they came of those of level 1 */
    static void termsNextLevelKeepsTheOrder() {
        BoundedMachines x = new BoundedMachines(2);
        int a = x.state(0, false);
        int b = x.state(0, false);
        int c = x.state(1, false);
        int d = x.state(1, false);
        x.next(a, 1);
        x.next(b, 0);
        x.next(c, a);
        x.next(d, b);
        int no = x.gate(4, 0, 0);
        int ofOneThenTwo = x.gate(0, d, x.gate(0, a, x.gate(3, b, 0)));
        int ofTwoThenOne = x.gate(0, c, x.gate(0, b, x.gate(3, a, 0)));
        x.compare(x.gate(1, ofOneThenTwo, ofTwoThenOne), no);
        CHECKS.due("search", 0, () -> x.search(20));
        CHECKS.due("length", 3, x::length);
        CHECKS.due("word(0)", 1, () -> x.word(0));
        CHECKS.due("word(1)", 2, () -> x.word(1));
        CHECKS.due("word(2)", 0, () -> x.word(2));
    }

    /** "Of several exceptions the first one told is thrown.": by each call that has two, when both are due */
    static void termsFirstExceptionToldIsThrown() {
        BoundedMachines x = Machines.fullOfNodes(1);
        for (int pair = 0; pair < 16; pair++) {
            x.compare(0, 0);
        }
        CHECKS.throwsUnsupported("state, full", () -> x.state(0, true));
        CHECKS.throwsArgument("state, full and no side", () -> x.state(2, true));
        CHECKS.throwsUnsupported("gate, full", () -> x.gate(0, 0, 0));
        CHECKS.throwsArgument("gate, full and no op", () -> x.gate(6, 0, 0));
        CHECKS.throwsArgument("gate, full and no node", () -> x.gate(0, 0, 100));
        CHECKS.throwsUnsupported("compare, full", () -> x.compare(0, 0));
        CHECKS.throwsArgument("compare, full and no node", () -> x.compare(0, 100));
    }

    /** "The constants: `NONE = -1`: Nothing there." */
    static void termsNoneIsBelowZero() {
        BoundedMachines x = new BoundedMachines(1);
        CHECKS.same("NONE", -1, BoundedMachines.NONE);
        CHECKS.due("no length", BoundedMachines.NONE, x::length);
        CHECKS.due("no replay", BoundedMachines.NONE, x::replay);
        CHECKS.due("no pair", BoundedMachines.NONE, () -> x.count(7));
        CHECKS.due("no such count", BoundedMachines.NONE, () -> x.count(8));
    }

    /** What can be asked without a change, with right and wrong numbers. */
    private static String allAnswers(BoundedMachines x) {
        StringBuilder answers = new StringBuilder();
        answers.append(x.length()).append(' ').append(x.clear()).append(' ').append(x.seen());
        for (int k = -1; k <= 7; k++) {
            int asked = k;
            answers.append(' ').append(Checks.outcome(() -> x.word(asked)));
            answers.append(' ').append(Checks.outcome(() -> x.level(asked)));
            answers.append(' ').append(Checks.outcome(() -> x.truth(asked)));
            answers.append(' ').append(x.count(k));
        }
        return answers.toString();
    }

    private static void answersTheSameAgain(String when, BoundedMachines x) {
        String once = allAnswers(x);
        CHECKS.same("asked again " + when, once, allAnswers(x));
    }

    /** "Nothing is promised beyond the .. state changes described above": none is, of those that only ask */
    static void notPromisedAskingChangesNothing() {
        BoundedMachines x = Machines.counterAgainstNo(3);
        answersTheSameAgain("before all", x);
        CHECKS.due("search", 1, () -> x.search(2));
        x.cycle(1);
        answersTheSameAgain("while the search goes on", x);
        CHECKS.due("the search goes on", 1, () -> x.search(4));
        x.cycle(1);
        CHECKS.due("the run by hand goes on", 2, () -> x.count(6));
        CHECKS.due("so does the low state", true, () -> x.truth(1));
        CHECKS.due("the program is found", 0, () -> x.search(5));
        answersTheSameAgain("when the program is known", x);
        CHECKS.due("replay", 4, x::replay);
        answersTheSameAgain("behind the program", x);
        CHECKS.due("a cycle goes on from there", true, () -> x.cycle(0));
        CHECKS.due("cycles", 6, () -> x.count(6));
        CHECKS.due("pairs", 1, () -> x.count(5));
    }
}
