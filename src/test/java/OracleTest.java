import java.util.ArrayList;
import java.util.HashMap;
import java.util.List;
import java.util.Map;
import java.util.TreeSet;

/** Long mixed runs of calls, held against a model that follows the document's definitions word by word. */
public final class OracleTest {
    private static final int RUNS = 210;
    /** A turn is one call or a few; whole runs stay near the document's 512 calls. */
    private static final int TURNS = 200;
    private static int wrong = 0;

    public static void main(String[] args) {
        for (int run = 0; run < RUNS && wrong < 20; run++) {
            playRun(run);
        }
        System.out.println(wrong == 0 ? "the model agrees" : wrong + " answers are not the model's");
        if (wrong != 0) {
            System.exit(1);
        }
    }

    private static void playRun(int run) {
        Dice dice = new Dice(run + 1);
        int n = run % 7 + 1;
        // Runs that clear often see small states, runs that hardly clear see full ones.
        int clearOdds = run % 3 == 0 ? 400 : 40;
        MotionGroups real = new MotionGroups(n);
        Model model = new Model(n);
        if (run % 2 == 0) {
            playBeginning(run, 0, dice, real, model);
        }
        for (int call = 1; call <= TURNS; call++) {
            playCall(run, call, dice, clearOdds, real, model);
        }
    }

    private static void playCall(int run, int call, Dice dice, int clearOdds, MotionGroups real, Model model) {
        int p = dice.near(model.permutations.size());
        int q = dice.near(model.permutations.size());
        int g = dice.near(model.groups.size());
        int h = dice.near(model.groups.size());
        int kind = dice.below(clearOdds) == 0 ? 19 : dice.below(19);
        switch (kind) {
            case 0, 1, 2 -> playText(run, call, dice, real, model);
            case 3 -> due(run, call, "product", real.product(p, q), model.product(p, q));
            case 4 -> due(run, call, "inverse", real.inverse(p), model.inverse(p));
            case 5 -> due(run, call, "images", real.images(p), model.images(p));
            case 6 -> playGroup(run, call, dice, real, model);
            case 7 -> due(run, call, "generate", real.generate(g, p), model.generate(g, p));
            case 8 -> due(run, call, "order", real.order(g), model.order(g));
            case 9 -> due(run, call, "contains", real.contains(g, p), model.contains(g, p));
            case 10 -> {
                int k = dice.near(Math.max(1, model.order(g)));
                due(run, call, "element", real.element(g, k), model.element(g, k));
            }
            case 11 -> due(run, call, "least", real.least(g, p), model.least(g, p));
            case 12 -> {
                int x = dice.near(model.n);
                due(run, call, "orbit", real.orbit(g, x), model.orbit(g, x));
            }
            case 13 -> {
                int points = dice.near(1 << model.n);
                dueGroup(run, call, "hold", real.hold(g, points), model.hold(g, points), real, model);
            }
            case 14 -> due(run, call, "compare", real.compare(g, h), model.compare(g, h));
            case 15 -> due(run, call, "normal", real.normal(g, h), model.normal(g, h));
            case 16 -> dueGroup(run, call, "closure", real.closure(g, h), model.closure(g, h), real, model);
            case 17 -> dueGroup(run, call, "derived", real.derived(g), model.derived(g), real, model);
            case 18 -> due(run, call, "length", real.length(g), model.length(g));
            default -> playClear(run, call, dice, real, model);
        }
    }

    /** Some permutations and groups to begin with: chance alone seldom comes beyond trivial groups. */
    private static void playBeginning(int run, int call, Dice dice, MotionGroups real, Model model) {
        for (int i = 0; i < 6; i++) {
            playText(run, call, dice, real, model);
        }
        for (int i = 0; i < 4; i++) {
            playGroup(run, call, dice, real, model);
        }
    }

    private static void playGroup(int run, int call, Dice dice, MotionGroups real, Model model) {
        int made = model.group();
        due(run, call, "group", real.group(), made);
        int generators = dice.below(3);
        for (int i = 0; i < generators; i++) {
            int p = dice.near(model.permutations.size());
            due(run, call, "generate", real.generate(made, p), model.generate(made, p));
        }
    }

    /** Only the orders are asked at once; later calls see which elements there are. */
    private static void dueGroup(int run, int call, String name, int got, int want, MotionGroups real, Model model) {
        due(run, call, name, got, want);
        due(run, call, "order after " + name, real.order(got), model.order(want));
    }

    private static void playClear(int run, int call, Dice dice, MotionGroups real, Model model) {
        due(run, call, "clear", real.clear(), model.clear());
        if (dice.below(3) != 0) {
            playBeginning(run, call, dice, real, model);
        }
    }

    private static void playText(int run, int call, Dice dice, MotionGroups real, Model model) {
        if (dice.below(8) == 0) {
            int word = dice.next();
            int n = dice.near(5);
            due(run, call, "type", real.type(word, n), model.type(word, n));
            return;
        }
        String text = dice.text(model.n);
        for (int i = 0; i < text.length(); i++) {
            due(run, call, "type", real.type(text.charAt(i), 1), model.type(text.charAt(i), 1));
        }
        if (dice.below(6) != 0) {
            due(run, call, "read", real.read(), model.read());
        }
    }

    private static void due(int run, int call, String name, boolean got, boolean want) {
        due(run, call, name, got ? 1 : 0, want ? 1 : 0);
    }

    private static void due(int run, int call, String name, int got, int want) {
        if (got != want) {
            wrong++;
            System.out.println("run " + run + ", call " + call + ": " + name + " answered " + got + ", due is " + want);
        }
    }

    /** The same throws in every run of the tests. */
    private static final class Dice {
        private long state;

        Dice(long seed) {
            state = seed * 0x9E3779B97F4A7C15L;
        }

        int next() {
            state = state * 6364136223846793005L + 1442695040888963407L;
            return (int) (state >>> 32);
        }

        int below(int bound) {
            return Math.floorMod(next() >>> 4, bound);
        }

        /** Mostly 0 .. bound - 1, now and then just outside. */
        int near(int bound) {
            return below(12) == 0 ? (below(2) == 0 ? -1 : bound) : below(Math.max(1, bound));
        }

        String text(int n) {
            StringBuilder text = new StringBuilder();
            List<Integer> left = new ArrayList<>();
            for (int x = 0; x < n; x++) {
                left.add(x);
            }
            int brackets = below(4);
            for (int i = 0; i < brackets && !left.isEmpty(); i++) {
                text.append(" ".repeat(below(2))).append('(');
                int points = 1 + below(Math.min(4, left.size()));
                for (int j = 0; j < points; j++) {
                    text.append(left.remove(below(left.size()))).append(" ".repeat(below(2)));
                }
                text.append(')');
            }
            if (below(4) == 0) {
                text.insert(below(text.length() + 1), " ()0123456x".charAt(below(11)));
            }
            if (below(12) == 0) {
                text.setLength(below(text.length() + 1));
            }
            return text.toString();
        }
    }

    /** A permutation is the decimal number of its images, a group the sorted set of its elements. */
    private static final class Model {
        final int n;
        final List<Integer> permutations = new ArrayList<>();
        final List<TreeSet<Integer>> groups = new ArrayList<>();
        private String typed = "";
        private final Map<TreeSet<Integer>, TreeSet<Integer>> derivedBefore = new HashMap<>();

        Model(int n) {
            this.n = n >= 2 && n <= 6 ? n : 4;
            permutations.add(identity());
        }

        private int[] row(int p) {
            int[] row = new int[n];
            for (int x = n - 1; x >= 0; x--) {
                row[x] = p % 10;
                p /= 10;
            }
            return row;
        }

        private int number(int[] row) {
            int p = 0;
            for (int image : row) {
                p = p * 10 + image;
            }
            return p;
        }

        private int identity() {
            int[] row = new int[n];
            for (int x = 0; x < n; x++) {
                row[x] = x;
            }
            return number(row);
        }

        private int times(int a, int b) {
            int[] first = row(a);
            int[] second = row(b);
            int[] both = new int[n];
            for (int x = 0; x < n; x++) {
                both[x] = second[first[x]];
            }
            return number(both);
        }

        private int back(int a) {
            int[] row = row(a);
            int[] back = new int[n];
            for (int x = 0; x < n; x++) {
                back[row[x]] = x;
            }
            return number(back);
        }

        private TreeSet<Integer> generated(TreeSet<Integer> generators) {
            TreeSet<Integer> all = new TreeSet<>();
            List<Integer> open = new ArrayList<>();
            List<Integer> useful = new ArrayList<>();
            all.add(identity());
            for (int generator : generators) {
                if (all.contains(generator)) {
                    continue;
                }
                useful.add(generator);
                open.addAll(all);
                while (!open.isEmpty()) {
                    int element = open.remove(open.size() - 1);
                    for (int factor : useful) {
                        int next = times(element, factor);
                        if (all.add(next)) {
                            open.add(next);
                        }
                    }
                }
            }
            return all;
        }

        private TreeSet<Integer> derivedOf(TreeSet<Integer> group) {
            TreeSet<Integer> known = derivedBefore.get(group);
            if (known != null) {
                return known;
            }
            TreeSet<Integer> commutators = new TreeSet<>();
            for (int a : group) {
                for (int b : group) {
                    commutators.add(times(times(times(back(a), back(b)), a), b));
                }
            }
            TreeSet<Integer> derived = generated(commutators);
            derivedBefore.put(new TreeSet<>(group), derived);
            return derived;
        }

        private TreeSet<Integer> closureOf(TreeSet<Integer> g, TreeSet<Integer> h) {
            TreeSet<Integer> conjugates = new TreeSet<>();
            for (int by : g) {
                for (int element : h) {
                    conjugates.add(times(times(back(by), element), by));
                }
            }
            return generated(conjugates);
        }

        private boolean isPermutation(int a) {
            return a >= 0 && a < permutations.size();
        }

        private boolean isGroup(int g) {
            return g >= 0 && g < groups.size();
        }

        private int keep(int p) {
            if (permutations.size() == 40) {
                return -1;
            }
            permutations.add(p);
            return permutations.size() - 1;
        }

        private int keepGroup(TreeSet<Integer> group) {
            if (groups.size() == 12) {
                return -1;
            }
            groups.add(new TreeSet<>(group));
            return groups.size() - 1;
        }

        boolean type(int word, int count) {
            if (count < 1 || count > 4 || typed.length() + count > 40) {
                return false;
            }
            String more = "";
            for (int i = 0; i < count; i++) {
                more = (char) (word >> 8 * i & 255) + more;
            }
            if (!more.matches("[ -~]*")) {
                return false;
            }
            typed += more;
            return true;
        }

        private int fault(String text) {
            String point = "[0-" + (n - 1) + "]";
            String whole = "( *\\( *(" + point + " *)+\\))* *";
            String begun = whole + "(\\( *(" + point + " *)*)?";
            for (int at = 0; at < text.length(); at++) {
                String before = text.substring(0, at);
                char last = text.charAt(at);
                boolean again = Character.isDigit(last) && before.indexOf(last) >= 0;
                if (again || !(before + last).matches(begun)) {
                    return at;
                }
            }
            return text.matches(whole) ? -1 : text.length();
        }

        int read() {
            String text = typed;
            typed = "";
            int fault = fault(text);
            if (fault >= 0) {
                return -1 - fault;
            }
            int[] row = row(identity());
            for (String bracket : text.replace(" ", "").split("\\)")) {
                for (int i = 1; i < bracket.length(); i++) {
                    int next = i + 1 < bracket.length() ? i + 1 : 1;
                    row[bracket.charAt(i) - '0'] = bracket.charAt(next) - '0';
                }
            }
            int number = keep(number(row));
            return number < 0 ? -1000 : number;
        }

        int product(int a, int b) {
            return isPermutation(a) && isPermutation(b) ? keep(times(permutations.get(a), permutations.get(b))) : -1;
        }

        int inverse(int a) {
            return isPermutation(a) ? keep(back(permutations.get(a))) : -1;
        }

        int images(int a) {
            return isPermutation(a) ? permutations.get(a) : -1;
        }

        int group() {
            return keepGroup(generated(new TreeSet<>()));
        }

        int generate(int g, int a) {
            if (!isGroup(g) || !isPermutation(a)) {
                return -1;
            }
            TreeSet<Integer> generators = new TreeSet<>(groups.get(g));
            generators.add(permutations.get(a));
            groups.set(g, generated(generators));
            return groups.get(g).size();
        }

        int order(int g) {
            return isGroup(g) ? groups.get(g).size() : -1;
        }

        boolean contains(int g, int a) {
            return isGroup(g) && isPermutation(a) && groups.get(g).contains(permutations.get(a));
        }

        int element(int g, int k) {
            if (!isGroup(g) || k < 0 || k >= order(g)) {
                return -1;
            }
            return keep(new ArrayList<>(groups.get(g)).get(k));
        }

        int least(int g, int a) {
            if (!isGroup(g) || !isPermutation(a)) {
                return -1;
            }
            TreeSet<Integer> coset = new TreeSet<>();
            for (int element : groups.get(g)) {
                coset.add(times(permutations.get(a), element));
            }
            return keep(coset.first());
        }

        int orbit(int g, int x) {
            if (!isGroup(g) || x < 0 || x >= n) {
                return -1;
            }
            TreeSet<Integer> reached = new TreeSet<>();
            for (int element : groups.get(g)) {
                reached.add(1 << row(element)[x]);
            }
            return reached.stream().mapToInt(Integer::intValue).sum();
        }

        int hold(int g, int points) {
            if (!isGroup(g) || points < 0 || points >= 1 << n) {
                return -1;
            }
            TreeSet<Integer> held = new TreeSet<>();
            for (int element : groups.get(g)) {
                int[] row = row(element);
                boolean holds = true;
                for (int x = 0; x < n; x++) {
                    holds &= (points & 1 << x) == 0 || row[x] == x;
                }
                if (holds) {
                    held.add(element);
                }
            }
            return keepGroup(held);
        }

        int compare(int g, int h) {
            if (!isGroup(g) || !isGroup(h)) {
                return -1;
            }
            if (groups.get(g).equals(groups.get(h))) {
                return 3;
            }
            if (groups.get(h).containsAll(groups.get(g))) {
                return 1;
            }
            return groups.get(g).containsAll(groups.get(h)) ? 2 : 0;
        }

        boolean normal(int g, int h) {
            return isGroup(g) && isGroup(h) && groups.get(g).containsAll(groups.get(h))
                && closureOf(groups.get(g), groups.get(h)).equals(groups.get(h));
        }

        int closure(int g, int h) {
            return isGroup(g) && isGroup(h) ? keepGroup(closureOf(groups.get(g), groups.get(h))) : -1;
        }

        int derived(int g) {
            return isGroup(g) ? keepGroup(derivedOf(groups.get(g))) : -1;
        }

        int length(int g) {
            if (!isGroup(g)) {
                return -1;
            }
            int steps = 0;
            TreeSet<Integer> now = groups.get(g);
            while (now.size() > 1) {
                TreeSet<Integer> next = derivedOf(now);
                if (next.equals(now)) {
                    return -1;
                }
                now = next;
                steps++;
            }
            return steps;
        }

        int clear() {
            int gone = groups.size();
            groups.clear();
            permutations.clear();
            permutations.add(identity());
            typed = "";
            return gone;
        }
    }
}
