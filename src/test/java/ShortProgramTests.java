import java.util.Arrays;
import java.util.Random;
import java.util.TreeSet;

/**
 * The first sentence of "What it is", clause by clause: drawn machines, of which all short programs are run by hand one
 * by one, without the search.
 */
public final class ShortProgramTests {
    private static final Checks CHECKS = new Checks();
    private static final int MACHINES = 60;
    private static final int BITS = 2;
    private static final int LONGEST = 4;
    private static final int[] NO_PROGRAM = {};
    // found once, since each clause asks for them
    private static final int[][] LEAST = new int[MACHINES][];

    private ShortProgramTests() {
    }

    public static void main(String[] args) {
        for (int seed = 0; seed < MACHINES; seed++) {
            LEAST[seed] = leastByHand(seed);
        }
        CHECKS.runTests(ShortProgramTests.class, "whatItIs");
        CHECKS.end("ShortProgramTests");
    }

    /** Two sides of three states and some gates; what is compared is true in few rows alone. */
    private static BoundedMachines drawn(int seed) {
        Random random = new Random(seed);
        BoundedMachines x = new BoundedMachines(BITS);
        int[] states = new int[6];
        for (int s = 0; s < states.length; s++) {
            states[s] = x.state(s % 2, random.nextInt(4) == 0);
        }
        for (int gates = 0; gates < 8; gates++) {
            x.gate(random.nextInt(4), random.nextInt(x.count(1)), random.nextInt(x.count(1)));
        }
        for (int state : states) {
            x.next(state, random.nextInt(x.count(1)));
        }
        int rare = x.gate(5, 0, 0);
        for (int wanted = random.nextInt(4); wanted >= 0; wanted--) {
            rare = x.gate(0, rare, states[random.nextInt(states.length)]);
        }
        x.compare(rare, x.gate(4, 0, 0));
        return x;
    }

    private static int[] leastByHand(int seed) {
        BoundedMachines x = drawn(seed);
        for (int length = 1; length <= LONGEST; length++) {
            for (int number = 0; number < 1 << BITS * length; number++) {
                if (number % 64 == 0) {
                    // an object is used for at most 512 calls
                    x = drawn(seed);
                }
                int[] program = program(number, length);
                if (differsInTheLastCycle(x, program)) {
                    return program;
                }
            }
        }
        return NO_PROGRAM;
    }

    /** Programs of one length, in the order in which their words go: the first word is the highest digit. */
    private static int[] program(int number, int length) {
        int[] words = new int[length];
        int rest = number;
        for (int k = length - 1; k >= 0; k--) {
            words[k] = rest % (1 << BITS);
            rest /= 1 << BITS;
        }
        return words;
    }

    private static boolean differsInTheLastCycle(BoundedMachines x, int[] program) {
        boolean differs = false;
        x.begin();
        for (int word : program) {
            differs = x.cycle(word);
        }
        return differs;
    }

    /** The machines are of all kinds: told apart by programs of each length, and not told apart. */
    static void whatItIsMachinesOfAllKinds() {
        TreeSet<Integer> lengths = new TreeSet<>();
        TreeSet<Integer> answers = new TreeSet<>();
        for (int seed = 0; seed < MACHINES; seed++) {
            lengths.add(LEAST[seed].length);
            answers.add(drawn(seed).search(LONGEST));
        }
        CHECKS.same("lengths of the least programs", "[0, 1, 2, 3, 4]", lengths.toString());
        CHECKS.same("answers of search", "[0, 1, 2]", answers.toString());
    }

    /** "whether they can be told apart by a short program" */
    static void whatItIsWhetherTheyCanBeToldApart() {
        for (int seed = 0; seed < MACHINES; seed++) {
            BoundedMachines x = drawn(seed);
            CHECKS.due("machine " + seed, LEAST[seed].length > 0, () -> x.search(LONGEST) == 0);
        }
    }

    /** "which is the least one" */
    static void whatItIsWhichIsTheLeastOne() {
        for (int seed = 0; seed < MACHINES; seed++) {
            BoundedMachines x = drawn(seed);
            x.search(LONGEST);
            int[] words = new int[Math.max(0, x.length())];
            for (int k = 0; k < words.length; k++) {
                words[k] = x.word(k);
            }
            CHECKS.same("machine " + seed, Arrays.toString(LEAST[seed]), Arrays.toString(words));
        }
    }

    /** "how far it is clear that they can not": so many levels as programs that differ have words, less one */
    static void whatItIsHowFarItIsClear() {
        for (int seed = 0; seed < MACHINES; seed++) {
            BoundedMachines x = drawn(seed);
            int answer = x.search(LONGEST);
            if (answer == 0) {
                CHECKS.due("machine " + seed + ", told apart", LEAST[seed].length - 1, x::clear);
            } else if (answer == 1) {
                CHECKS.due("machine " + seed + ", not yet", LONGEST, x::clear);
            } else {
                CHECKS.due("machine " + seed + ", never", true, () -> x.clear() <= LONGEST);
            }
        }
    }

    /** "programs run by hand": the same words, given one by one, lead where replay() leads */
    static void whatItIsProgramsRunByHand() {
        for (int seed = 0; seed < MACHINES; seed++) {
            if (LEAST[seed].length > 0) {
                BoundedMachines byHand = drawn(seed);
                BoundedMachines replayed = drawn(seed);
                replayed.search(LONGEST);
                CHECKS.due("machine " + seed + ", replay", LEAST[seed].length - 1, replayed::replay);
                CHECKS.same("machine " + seed + ", by hand", true, differsInTheLastCycle(byHand, LEAST[seed]));
                for (int node = 0; node < byHand.count(1); node++) {
                    int asked = node;
                    CHECKS.due("machine " + seed + ", node " + node, byHand.truth(node), () -> replayed.truth(asked));
                }
            }
        }
    }

    /** "equal pairs proved for good": two counters that are built unlike, and the same with a fault in one of them */
    static void whatItIsEqualPairsProvedForGood() {
        BoundedMachines equal = Machines.twoCounters(7, false);
        CHECKS.due("equal", 2, () -> equal.search(20000));
        CHECKS.due("and again", 2, () -> equal.search(20000));
        CHECKS.due("no program", BoundedMachines.NONE, equal::length);
        BoundedMachines faulty = Machines.twoCounters(7, true);
        CHECKS.due("not proved yet", 1, () -> faulty.search(64));
        CHECKS.due("with a fault", 0, () -> faulty.search(20000));
        CHECKS.due("64 times up, and the cycle that shows it", 65, faulty::length);
    }
}
