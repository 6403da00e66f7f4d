import java.util.ArrayDeque;
import java.util.ArrayList;
import java.util.BitSet;
import java.util.Deque;
import java.util.LinkedHashSet;
import java.util.List;
import java.util.Set;
import java.util.TreeSet;

/**
 * Every subgroup, and every pair of them, for 2 to 5 points: what the program answers about them is what the
 * definitions of the document say, followed word by word over all elements.
 */
public final class EverySubgroup {
    /** So many there are for 2, 3, 4 and 5 points, as is long known. */
    private static final int[] SUBGROUPS = {0, 0, 2, 6, 30, 156};
    private static final int MOST_ELEMENTS_ASKED = 20;

    private final int n;
    /** In the order in which permutations are compared, so that a place in it tells which is less. */
    private final List<int[]> permutations = new ArrayList<>();
    private final int[][] products;
    private final int[] inverses;

    public static void main(String[] args) {
        for (int n = 2; n <= 5; n++) {
            EverySubgroup all = new EverySubgroup(n);
            Checks.sentence("every subgroup of " + n + " points", all::look);
        }
        Checks.end();
    }

    private EverySubgroup(int n) {
        this.n = n;
        listPermutations(new int[n], 0, 0);
        int size = permutations.size();
        products = new int[size][size];
        inverses = new int[size];
        for (int a = 0; a < size; a++) {
            for (int b = 0; b < size; b++) {
                products[a][b] = placeOfProduct(a, b);
                if (products[a][b] == 0) {
                    inverses[a] = b;
                }
            }
        }
    }

    private void listPermutations(int[] images, int x, int used) {
        if (x == n) {
            permutations.add(images.clone());
            return;
        }
        for (int point = 0; point < n; point++) {
            if ((used >> point & 1) == 0) {
                images[x] = point;
                listPermutations(images, x + 1, used | 1 << point);
            }
        }
    }

    private int placeOfProduct(int a, int b) {
        for (int place = 0; place < permutations.size(); place++) {
            boolean same = true;
            for (int x = 0; x < n && same; x++) {
                same = image(place, x) == image(b, image(a, x));
            }
            if (same) {
                return place;
            }
        }
        throw new IllegalStateException();
    }

    private int image(int a, int x) {
        return permutations.get(a)[x];
    }

    // What the definitions say

    private BitSet generated(Iterable<Integer> generators) {
        BitSet found = new BitSet();
        found.set(0);
        Deque<Integer> waiting = new ArrayDeque<>(List.of(0));
        while (!waiting.isEmpty()) {
            int a = waiting.poll();
            for (int generator : generators) {
                int next = products[a][generator];
                if (!found.get(next)) {
                    found.set(next);
                    waiting.add(next);
                }
            }
        }
        return found;
    }

    private static List<Integer> elements(BitSet group) {
        return group.stream().boxed().toList();
    }

    private BitSet derivedOf(BitSet group) {
        Set<Integer> commutators = new TreeSet<>();
        for (int a : elements(group)) {
            for (int b : elements(group)) {
                commutators.add(products[products[products[inverses[a]][inverses[b]]][a]][b]);
            }
        }
        return generated(commutators);
    }

    private BitSet closureOf(BitSet outer, BitSet inner) {
        Set<Integer> conjugates = new TreeSet<>();
        for (int g : elements(outer)) {
            for (int h : elements(inner)) {
                conjugates.add(products[products[inverses[g]][h]][g]);
            }
        }
        return generated(conjugates);
    }

    private BitSet holderOf(BitSet group, int points) {
        BitSet held = new BitSet();
        for (int a : elements(group)) {
            boolean holds = true;
            for (int x = 0; x < n; x++) {
                holds &= (points >> x & 1) == 0 || image(a, x) == x;
            }
            held.set(a, holds);
        }
        return held;
    }

    private int lengthOf(BitSet group) {
        BitSet now = group;
        int steps = 0;
        while (now.cardinality() > 1) {
            BitSet next = derivedOf(now);
            if (next.equals(now)) {
                return -1;
            }
            now = next;
            steps++;
        }
        return steps;
    }

    private static boolean liesIn(BitSet inner, BitSet outer) {
        BitSet outside = (BitSet) inner.clone();
        outside.andNot(outer);
        return outside.isEmpty();
    }

    private List<BitSet> subgroups() {
        BitSet trivial = generated(List.of());
        Set<BitSet> found = new LinkedHashSet<>(List.of(trivial));
        Deque<BitSet> waiting = new ArrayDeque<>(List.of(trivial));
        while (!waiting.isEmpty()) {
            BitSet group = waiting.poll();
            for (int a = group.nextClearBit(0); a < permutations.size(); a = group.nextClearBit(a + 1)) {
                List<Integer> generators = new ArrayList<>(fewGenerators(group));
                generators.add(a);
                BitSet larger = generated(generators);
                if (found.add(larger)) {
                    waiting.add(larger);
                }
            }
        }
        return new ArrayList<>(found);
    }

    private List<Integer> fewGenerators(BitSet group) {
        List<Integer> generators = new ArrayList<>();
        BitSet reached = generated(generators);
        for (int a = group.length() - 1; a >= 0; a--) {
            if (group.get(a) && !reached.get(a)) {
                generators.add(a);
                reached = generated(generators);
            }
        }
        return generators;
    }

    // What the program answers

    private void look() {
        List<BitSet> all = subgroups();
        Checks.due("the number of subgroups", all.size(), SUBGROUPS[n]);
        for (BitSet group : all) {
            lookAtOne(group);
            for (int points = 0; points < 1 << n; points++) {
                lookAtHeld(group, points);
            }
            for (int a = 0; a < permutations.size(); a++) {
                lookAtCoset(group, a);
            }
            for (BitSet other : all) {
                lookAtPair(group, other);
            }
        }
    }

    private void lookAtOne(BitSet group) {
        Run run = new Run(n);
        int g = load(run, group);
        run.due(lengthOf(group), "length", g);
        same(run, run.ask("derived", g), derivedOf(group));
        same(run, g, group);
    }

    private void lookAtHeld(BitSet group, int points) {
        Run run = new Run(n);
        int g = load(run, group);
        same(run, run.ask("hold", g, points), holderOf(group, points));
    }

    private void lookAtCoset(BitSet group, int a) {
        Run run = new Run(n);
        int g = load(run, group);
        int number = run.permutation(cycles(a));
        int least = elements(group).stream().mapToInt(b -> products[a][b]).min().orElseThrow();
        run.due(group.get(a) ? 1 : 0, "contains", g, number);
        run.due(digits(least), "images", run.ask("least", g, number));
    }

    private void lookAtPair(BitSet group, BitSet other) {
        Run run = new Run(n);
        int g = load(run, group);
        int h = load(run, other);
        boolean first = liesIn(group, other);
        boolean second = liesIn(other, group);
        BitSet closure = closureOf(group, other);
        run.due(first && second ? 3 : first ? 1 : second ? 2 : 0, "compare", g, h);
        run.due(second && closure.equals(other) ? 1 : 0, "normal", g, h);
        same(run, run.ask("closure", g, h), closure);
    }

    private int load(Run run, BitSet group) {
        return run.groupOf(fewGenerators(group).stream().map(this::cycles).toArray(String[]::new));
    }

    /** Its order, its orbits, and as many of its elements as there is room for. */
    private void same(Run run, int g, BitSet due) {
        run.due(due.cardinality(), "order", g);
        for (int x = 0; x < n; x++) {
            int reached = 0;
            for (int a : elements(due)) {
                reached |= 1 << image(a, x);
            }
            run.due(reached, "orbit", g, x);
        }
        List<Integer> inOrder = elements(due);
        int step = inOrder.size() / MOST_ELEMENTS_ASKED + 1;
        for (int k = 0; k < inOrder.size(); k += step) {
            int number = run.ask("element", g, k);
            if (number >= 0) {
                run.due(digits(inOrder.get(k)), "images", number);
            } else {
                run.due(-1, "product", 0, 0);
            }
        }
    }

    private int digits(int a) {
        int answer = 0;
        for (int x = 0; x < n; x++) {
            answer = answer * 10 + image(a, x);
        }
        return answer;
    }

    private String cycles(int a) {
        StringBuilder text = new StringBuilder();
        int seen = 0;
        for (int x = 0; x < n; x++) {
            if ((seen >> x & 1) == 0) {
                text.append('(');
                for (int y = x; (seen >> y & 1) == 0; y = image(a, y)) {
                    text.append(y);
                    seen |= 1 << y;
                }
                text.append(')');
            }
        }
        return text.toString();
    }
}
