import java.util.ArrayList;
import java.util.List;
import java.util.Random;

/** Runs of calls drawn by fixed seeds: every answer and exception is the plain model's. */
public final class AgainstPlainModelTests {
    private static final int RUNS = 1500;
    private static final Checks CHECKS = new Checks();
    private static final int[] ODD = {Integer.MIN_VALUE, Integer.MAX_VALUE, -1, 99, 100, 101, 20000, 20001, -4};

    private final Random random;
    private final BoundedMachines made;
    private final PlainModel plain;
    private final int mostStates;
    private final String name;
    private final List<Integer> stateNodes = new ArrayList<>();

    private AgainstPlainModelTests(int seed) {
        random = new Random(seed);
        int bits = random.nextInt(20) == 0 ? odd() : random.nextInt(12) - 5;
        made = new BoundedMachines(bits);
        plain = new PlainModel(bits);
        // the plain model is slow: few runs go up to all states
        mostStates = seed % 100 == 0 ? 15 : random.nextInt(8);
        name = "seed " + seed + ": new(" + bits + ")";
    }

    public static void main(String[] args) {
        for (int seed = 0; seed < RUNS; seed++) {
            new AgainstPlainModelTests(seed).run();
        }
        CHECKS.end("AgainstPlainModelTests");
    }

    private int odd() {
        return ODD[random.nextInt(ODD.length)];
    }

    private int node() {
        return random.nextInt(40) == 0 ? odd() : random.nextInt(plain.count(1) + (random.nextInt(30) == 0 ? 2 : 0));
    }

    private int stateNode() {
        return stateNodes.isEmpty() || random.nextInt(12) == 0 ? node() : stateNodes.get(random.nextInt(stateNodes.size()));
    }

    private void both(String call, Checks.Call want, Checks.Call got) {
        CHECKS.same(name + " " + call, Checks.outcome(want), Checks.outcome(got));
    }

    private void run() {
        if (random.nextInt(3) == 0) {
            buildDeep();
        } else {
            int build = random.nextInt(60);
            for (int k = 0; k < build; k++) {
                change();
            }
        }
        for (int k = 0; k < 60; k++) {
            if (random.nextInt(25) == 0) {
                change();
            } else {
                ask();
            }
        }
        askAll();
    }

    private int gate(int op, int a, int b) {
        both("gate(" + op + ", " + a + ", " + b + ")", () -> plain.gate(op, a, b), () -> made.gate(op, a, b));
        return plain.count(1) - 1;
    }

    private void next(int state, int node) {
        both("next(" + state + ", " + node + ")", () -> plain.next(state, node), () -> made.next(state, node));
    }

    private void compare(int a, int b) {
        both("compare(" + a + ", " + b + ")", () -> plain.compare(a, b), () -> made.compare(a, b));
    }

    /** States that flip by one another, and a pair that differs in few rows alone: levels are many. */
    private void buildDeep() {
        int states = 2 + random.nextInt(7);
        for (int s = 0; s < states; s++) {
            addState(s % 2, random.nextBoolean());
        }
        int carry = random.nextInt(plain.count(0));
        int rare = gate(5, 0, 0);
        for (int s = 0; s < states; s++) {
            int state = stateNodes.get(s);
            next(state, gate(2, state, carry));
            int other = random.nextInt(3) == 0 ? random.nextInt(plain.count(1)) : state;
            carry = gate(random.nextInt(8) == 0 ? 1 : 0, carry, other);
            rare = gate(0, rare, random.nextInt(3) == 0 ? gate(3, state, 0) : state);
        }
        compare(rare, gate(4, 0, 0));
    }

    private void change() {
        int kind = random.nextInt(20);
        if (kind < 5) {
            int side = random.nextInt(30) == 0 ? odd() : random.nextInt(2);
            boolean first = random.nextBoolean();
            if (stateNodes.size() < mostStates) {
                addState(side, first);
            }
        } else if (kind < 13) {
            int op = random.nextInt(40) == 0 ? odd() : random.nextInt(random.nextInt(4) == 0 ? 6 : 4);
            gate(op, node(), node());
        } else if (kind < 19) {
            next(stateNode(), node());
        } else {
            int a = node();
            compare(a, random.nextInt(3) == 0 ? a : node());
        }
    }

    private void addState(int side, boolean first) {
        int nodesBefore = plain.count(1);
        both("state(" + side + ")", () -> plain.state(side, first), () -> made.state(side, first));
        if (plain.count(1) > nodesBefore) {
            stateNodes.add(nodesBefore);
        }
    }

    private void ask() {
        int kind = random.nextInt(12);
        int small = random.nextInt(12) - 1;
        int k = random.nextInt(10) == 0 ? odd() : small;
        int node = node();
        switch (kind) {
            case 0, 1 -> {
                int depth = random.nextInt(4) == 0 ? 20000 : k;
                both("search(" + depth + ")", () -> plain.search(depth), () -> made.search(depth));
            }
            case 2 -> both("length()", plain::length, made::length);
            case 3 -> both("word(" + k + ")", () -> plain.word(k), () -> made.word(k));
            case 4 -> both("clear()", plain::clear, made::clear);
            case 5 -> both("seen()", plain::seen, made::seen);
            case 6 -> both("level(" + k + ")", () -> plain.level(k), () -> made.level(k));
            case 7 -> {
                if (small < 2) {
                    plain.begin();
                    made.begin();
                }
            }
            case 8, 9 -> {
                int word = random.nextInt(5) == 0 ? random.nextInt() : random.nextInt(16);
                both("cycle(" + word + ")", () -> plain.cycle(word), () -> made.cycle(word));
            }
            case 10 -> both("truth(" + node + ")", () -> plain.truth(node), () -> made.truth(node));
            default -> {
                if (small < 2) {
                    both("replay()", plain::replay, made::replay);
                }
                both("count(" + small + ")", () -> plain.count(small), () -> made.count(small));
            }
        }
    }

    private void askAll() {
        both("search(20000)", () -> plain.search(20000), () -> made.search(20000));
        both("length()", plain::length, made::length);
        both("seen()", plain::seen, made::seen);
        both("clear()", plain::clear, made::clear);
        for (int k = -1; k <= plain.clear() + 1; k++) {
            // of many levels the first and the last ones: nothing is promised behind an object's 512th call
            if (k < 60 || k > plain.clear() - 20) {
                int asked = k;
                both("level(" + k + ")", () -> plain.level(asked), () -> made.level(asked));
                both("word(" + k + ")", () -> plain.word(asked), () -> made.word(asked));
            }
        }
        both("replay()", plain::replay, made::replay);
        for (int node = -1; node <= plain.count(1); node++) {
            int asked = node;
            both("truth(" + node + ")", () -> plain.truth(asked), () -> made.truth(asked));
        }
        for (int what = -1; what <= 8; what++) {
            int asked = what;
            both("count(" + what + ")", () -> plain.count(asked), () -> made.count(asked));
        }
    }
}
