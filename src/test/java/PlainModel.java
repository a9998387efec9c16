import java.util.ArrayList;
import java.util.HashMap;
import java.util.HashSet;
import java.util.List;
import java.util.Map;
import java.util.Set;

/** The document's words done slowly: one word and one node at a time, programs kept whole. Made for comparison. */
final class PlainModel {
    private record Node(int kind, int a, int b, int side, boolean first) {
    }

    private record Pair(int a, int b) {
    }

    private record Row(List<Boolean> states, List<Integer> program) {
    }

    private static final int WORD_BIT = 10;
    private static final int STATE = 11;

    private final int bits;
    private final List<Node> nodes = new ArrayList<>();
    private final List<Integer> states = new ArrayList<>();
    private final Map<Integer, Integer> nexts = new HashMap<>();
    private final List<Pair> pairs = new ArrayList<>();

    private List<List<Row>> levels = new ArrayList<>();
    private Set<List<Boolean>> there = new HashSet<>();
    private int clear = 0;
    private List<Integer> least = null;

    private List<Boolean> handStates = new ArrayList<>();
    private List<Boolean> handTruths = null;
    private int handCycles = 0;
    private int handPair = -1;

    PlainModel(int bits) {
        this.bits = 1 + (int) ((((long) bits - 1) % 4 + 4) % 4);
        for (int k = 0; k < this.bits; k++) {
            nodes.add(new Node(WORD_BIT, k, 0, 0, false));
        }
    }

    private boolean isNode(int n) {
        return n >= 0 && n < nodes.size();
    }

    private void anew() {
        levels = new ArrayList<>();
        there = new HashSet<>();
        clear = 0;
        least = null;
        begin();
    }

    private List<Boolean> firstStates() {
        List<Boolean> firsts = new ArrayList<>();
        for (int s : states) {
            firsts.add(nodes.get(s).first());
        }
        return firsts;
    }

    int state(int side, boolean first) {
        if (side != 0 && side != 1) {
            throw new IllegalArgumentException();
        }
        if (states.size() == 14 || nodes.size() == 100) {
            throw new UnsupportedOperationException();
        }
        nodes.add(new Node(STATE, 0, 0, side, first));
        int node = nodes.size() - 1;
        states.add(node);
        nexts.put(node, node);
        anew();
        return node;
    }

    int gate(int op, int a, int b) {
        boolean known = op >= 0 && op <= 5;
        if (!known || op <= 2 && !(isNode(a) && isNode(b)) || op == 3 && !isNode(a)) {
            throw new IllegalArgumentException();
        }
        if (nodes.size() == 100) {
            throw new UnsupportedOperationException();
        }
        nodes.add(new Node(op, a, b, 0, false));
        anew();
        return nodes.size() - 1;
    }

    int next(int state, int node) {
        if (!states.contains(state) || !isNode(node)) {
            throw new IllegalArgumentException();
        }
        int before = nexts.put(state, node);
        anew();
        return before;
    }

    int compare(int a, int b) {
        if (!isNode(a) || !isNode(b)) {
            throw new IllegalArgumentException();
        }
        if (pairs.size() == 16) {
            throw new UnsupportedOperationException();
        }
        pairs.add(new Pair(a, b));
        anew();
        return pairs.size();
    }

    private List<Boolean> truths(int word, List<Boolean> stateTruths) {
        List<Boolean> truths = new ArrayList<>();
        for (int n = 0; n < nodes.size(); n++) {
            Node node = nodes.get(n);
            truths.add(switch (node.kind()) {
                case 0 -> truths.get(node.a()) && truths.get(node.b());
                case 1 -> truths.get(node.a()) || truths.get(node.b());
                case 2 -> truths.get(node.a()).booleanValue() != truths.get(node.b()).booleanValue();
                case 3 -> !truths.get(node.a());
                case 4 -> false;
                case 5 -> true;
                case WORD_BIT -> (word >> node.a()) % 2 != 0;
                default -> stateTruths.get(states.indexOf(n));
            });
        }
        return truths;
    }

    private List<Boolean> after(List<Boolean> truths) {
        List<Boolean> taken = new ArrayList<>();
        for (int s : states) {
            taken.add(truths.get(nexts.get(s)));
        }
        return taken;
    }

    private int differing(List<Boolean> truths) {
        for (int p = 0; p < pairs.size(); p++) {
            if (!truths.get(pairs.get(p).a()).equals(truths.get(pairs.get(p).b()))) {
                return p;
            }
        }
        return -1;
    }

    int search(int depth) {
        if (depth < 1 || depth > 20000) {
            throw new IllegalArgumentException();
        }
        if (levels.isEmpty()) {
            levels.add(List.of(new Row(firstStates(), List.of())));
            there.add(firstStates());
        }
        while (least == null && clear < depth && !levels.get(clear).isEmpty()) {
            ask(levels.get(clear));
            if (least == null) {
                levels.add(whatComesOf(levels.get(clear)));
                clear++;
            }
        }
        return least != null ? 0 : levels.get(clear).isEmpty() ? 2 : 1;
    }

    private void ask(List<Row> level) {
        for (Row row : level) {
            for (int word = 0; word < 1 << bits; word++) {
                if (differing(truths(word, row.states())) >= 0) {
                    least = longer(row.program(), word);
                    return;
                }
            }
        }
    }

    private List<Row> whatComesOf(List<Row> level) {
        List<Row> came = new ArrayList<>();
        for (Row row : level) {
            for (int word = 0; word < 1 << bits; word++) {
                List<Boolean> taken = after(truths(word, row.states()));
                if (there.add(taken)) {
                    came.add(new Row(taken, longer(row.program(), word)));
                }
            }
        }
        return came;
    }

    private static List<Integer> longer(List<Integer> program, int word) {
        List<Integer> more = new ArrayList<>(program);
        more.add(word);
        return more;
    }

    int length() {
        return least == null ? -1 : least.size();
    }

    int word(int k) {
        if (least == null || k < 0 || k >= least.size()) {
            throw new IndexOutOfBoundsException();
        }
        return least.get(k);
    }

    int clear() {
        return clear;
    }

    int seen() {
        int sum = 0;
        for (List<Row> level : levels) {
            sum += level.size();
        }
        return sum;
    }

    int level(int k) {
        if (k < 0 || k > clear) {
            throw new IndexOutOfBoundsException();
        }
        return levels.isEmpty() ? 0 : levels.get(k).size();
    }

    void begin() {
        handStates = firstStates();
        handTruths = null;
        handCycles = 0;
        handPair = -1;
    }

    boolean cycle(int word) {
        handTruths = truths(word & (1 << bits) - 1, handStates);
        handPair = differing(handTruths);
        handStates = after(handTruths);
        handCycles++;
        return handPair >= 0;
    }

    boolean truth(int node) {
        if (!isNode(node)) {
            throw new IndexOutOfBoundsException();
        }
        return handTruths == null ? nodes.get(node).first() : handTruths.get(node);
    }

    int replay() {
        if (least == null) {
            return -1;
        }
        begin();
        int first = -1;
        for (int k = 0; k < least.size(); k++) {
            if (cycle(least.get(k)) && first < 0) {
                first = k;
            }
        }
        return first;
    }

    int count(int what) {
        return switch (what) {
            case 0 -> bits;
            case 1 -> nodes.size();
            case 2 -> (int) states.stream().filter(s -> nodes.get(s).side() == 0).count();
            case 3 -> (int) states.stream().filter(s -> nodes.get(s).side() == 1).count();
            case 4 -> (int) nodes.stream().filter(n -> n.kind() <= 5).count();
            case 5 -> pairs.size();
            case 6 -> handCycles;
            case 7 -> handPair;
            default -> -1;
        };
    }
}
