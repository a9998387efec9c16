/** Machines that several tests use. Each is made by few enough calls that a test has hundreds of its 512 left. */
final class Machines {

    private Machines() {
    }

    /** A counter of so many states on side 0 that goes up by one when bit 0 of the word is set; answers its top state. */
    static int counter(BoundedMachines x, int states) {
        int carry = 0;
        int top = 0;
        for (int s = 0; s < states; s++) {
            top = x.state(0, false);
            int flipped = x.gate(2, top, carry);
            carry = x.gate(0, top, carry);
            x.next(top, flipped);
        }
        return top;
    }

    /** With s states: the least program is 2 to the power (s - 1) times word 1, then word 0; each level has one row. */
    static BoundedMachines counterAgainstNo(int states) {
        BoundedMachines x = new BoundedMachines(1);
        int top = counter(x, states);
        x.compare(top, x.gate(4, 0, 0));
        return x;
    }

    /** With s states: all is clear after 2 to the power s levels of one row each. */
    static BoundedMachines counterAgainstItself(int states) {
        BoundedMachines x = new BoundedMachines(1);
        int top = counter(x, states);
        x.compare(top, top);
        return x;
    }

    /** The same counter over both sides; answers the node that is true when all its states are. */
    static int counterAndAll(BoundedMachines x, int states) {
        int carry = 0;
        int all = x.gate(5, 0, 0);
        for (int s = 0; s < states; s++) {
            int state = x.state(s % 2, false);
            int flipped = x.gate(2, state, carry);
            carry = x.gate(0, state, carry);
            x.next(state, flipped);
            all = x.gate(0, all, state);
        }
        return all;
    }

    /** Differs in the last of all 16384 rows alone: 16383 times word 1, then word 0. */
    static BoundedMachines longestProgram() {
        BoundedMachines x = new BoundedMachines(1);
        int all = counterAndAll(x, 14);
        x.compare(all, x.gate(4, 0, 0));
        return x;
    }

    /** As many levels as there can be: 16384 of one row each, and all are clear. */
    static BoundedMachines mostLevels() {
        BoundedMachines x = new BoundedMachines(1);
        counterAndAll(x, 14);
        return x;
    }

    /** Fourteen states through which the words' four bits are handed on: levels of 1, 15, 240, 3840 and 12288 rows. */
    static BoundedMachines widestLevels() {
        BoundedMachines x = new BoundedMachines(4);
        for (int s = 0; s < 14; s++) {
            x.next(x.state(s % 2, false), s);
        }
        return x;
    }

    /**
     * A counter on side 0, and on side 1 one whose states are NOT of these; each of its states, NOT of it, is compared
     * with its twin. The faulty one never lets the top state of side 1 change.
     */
    static BoundedMachines twoCounters(int states, boolean faulty) {
        BoundedMachines x = new BoundedMachines(1);
        int carry = 0;
        int otherCarry = 0;
        for (int s = 0; s < states; s++) {
            int state = x.state(0, false);
            int other = x.state(1, true);
            int notOther = x.gate(3, other, 0);
            x.next(state, x.gate(2, state, carry));
            carry = x.gate(0, state, carry);
            if (!faulty || s < states - 1) {
                x.next(other, x.gate(2, other, otherCarry));
                otherCarry = x.gate(0, notOther, otherCarry);
            }
            x.compare(state, notOther);
        }
        return x;
    }

    /** Gates YES up to node 99. */
    static BoundedMachines fullOfNodes(int bits) {
        BoundedMachines x = new BoundedMachines(bits);
        fillWithGates(x, 100);
        return x;
    }

    static void fillWithGates(BoundedMachines x, int nodes) {
        for (int node = x.count(1); node < nodes; node++) {
            x.gate(5, 0, 0);
        }
    }

    /** B is 1, and nodes 1 to 14 are states, on both sides in turns. */
    static BoundedMachines fullOfStates() {
        BoundedMachines x = new BoundedMachines(1);
        for (int s = 0; s < 14; s++) {
            x.state(s % 2, false);
        }
        return x;
    }

    /** B is 2; sixteen pairs of node 0 with itself. */
    static BoundedMachines fullOfPairs() {
        BoundedMachines x = new BoundedMachines(2);
        for (int pair = 0; pair < 16; pair++) {
            x.compare(0, 0);
        }
        return x;
    }

    /**
     * B is 2; node 2 is a state that is true at first and flips in each cycle, node 3 NOT of it, node 4 YES; the state
     * is compared with bit 0 of the word.
     */
    static BoundedMachines flipper() {
        BoundedMachines x = new BoundedMachines(2);
        x.state(0, true);
        x.gate(3, 2, 0);
        x.gate(5, 0, 0);
        x.next(2, 3);
        x.compare(2, 0);
        return x;
    }
}
