/** Groups of permutations of 2 to 6 points, each known by what generates it. */
public final class MotionGroups {
    private static final int FEWEST_POINTS = 2;
    private static final int MOST_POINTS = 6;
    private static final int USUAL_POINTS = 4;
    private static final int MOST_PERMUTATIONS = 40;
    private static final int MOST_GROUPS = 12;
    /** Each derived group that is smaller is at most half as large, and 720 can be halved only 9 times. */
    private static final int MOST_STEPS = 10;
    private static final int NONE = -1;
    private static final int NO_ROOM_TO_READ = -1000;

    private static final int SAME = 3;
    private static final int FIRST_IN_SECOND = 1;
    private static final int SECOND_IN_FIRST = 2;
    private static final int APART = 0;

    private final Symmetry symmetry;
    private final CycleText typed;
    /** The ranks of the permutations, by their numbers. */
    private final int[] ranks;
    private int permutationCount;
    /** All that there can be are made at once and used again, so that no call makes an object. */
    private final Subgroup[] groups;
    private int groupCount;
    private final Subgroup evenSpare;
    private final Subgroup oddSpare;

    public MotionGroups(int n) {
        int points = n >= FEWEST_POINTS && n <= MOST_POINTS ? n : USUAL_POINTS;
        symmetry = new Symmetry(points);
        typed = new CycleText(points);
        ranks = new int[MOST_PERMUTATIONS];
        ranks[0] = Symmetry.IDENTITY;
        permutationCount = 1;
        int[] listed = new int[symmetry.size];
        groups = new Subgroup[MOST_GROUPS];
        for (int g = 0; g < MOST_GROUPS; g++) {
            groups[g] = new Subgroup(symmetry, listed);
        }
        groupCount = 0;
        evenSpare = new Subgroup(symmetry, listed);
        oddSpare = new Subgroup(symmetry, listed);
    }

    public boolean type(int word, int n) {
        return typed.append(word, n);
    }

    public int read() {
        int fault = typed.parse();
        typed.forget();
        if (fault != CycleText.NO_FAULT) {
            return -1 - fault;
        }
        int number = keep(symmetry.rankOf(typed.parsed));
        return number == NONE ? NO_ROOM_TO_READ : number;
    }

    public int product(int a, int b) {
        if (!isPermutation(a) || !isPermutation(b)) {
            return NONE;
        }
        return keep(symmetry.multiply(ranks[a], ranks[b]));
    }

    public int inverse(int a) {
        return isPermutation(a) ? keep(symmetry.invert(ranks[a])) : NONE;
    }

    public int images(int a) {
        return isPermutation(a) ? symmetry.digits(ranks[a]) : NONE;
    }

    public int group() {
        if (groupCount >= MOST_GROUPS) {
            return NONE;
        }
        groups[groupCount].becomeTrivial();
        groupCount++;
        return groupCount - 1;
    }

    public int generate(int g, int a) {
        if (!isGroup(g) || !isPermutation(a)) {
            return NONE;
        }
        groups[g].add(ranks[a]);
        return groups[g].size;
    }

    public int order(int g) {
        return isGroup(g) ? groups[g].size : NONE;
    }

    public boolean contains(int g, int a) {
        return isGroup(g) && isPermutation(a) && groups[g].has(ranks[a]);
    }

    public int element(int g, int k) {
        if (!isGroup(g) || k < 0 || k >= groups[g].size) {
            return NONE;
        }
        return keep(groups[g].member(k));
    }

    public int least(int g, int a) {
        if (!isGroup(g) || !isPermutation(a)) {
            return NONE;
        }
        return keep(groups[g].leastOfCoset(ranks[a]));
    }

    public int orbit(int g, int x) {
        if (!isGroup(g) || x < 0 || x >= symmetry.points) {
            return NONE;
        }
        return groups[g].pointsReachedFrom(x);
    }

    public int hold(int g, int points) {
        if (!isGroup(g) || points < 0 || points >= 1 << symmetry.points) {
            return NONE;
        }
        int made = group();
        if (made != NONE) {
            groups[made].becomeHolderOf(points, groups[g]);
        }
        return made;
    }

    public int compare(int g, int h) {
        if (!isGroup(g) || !isGroup(h)) {
            return NONE;
        }
        boolean firstInSecond = groups[g].liesIn(groups[h]);
        boolean secondInFirst = groups[h].liesIn(groups[g]);
        if (firstInSecond) {
            return secondInFirst ? SAME : FIRST_IN_SECOND;
        }
        return secondInFirst ? SECOND_IN_FIRST : APART;
    }

    public boolean normal(int g, int h) {
        return isGroup(g) && isGroup(h)
            && groups[h].liesIn(groups[g]) && groups[h].isKeptBy(groups[g]);
    }

    public int closure(int g, int h) {
        if (!isGroup(g) || !isGroup(h)) {
            return NONE;
        }
        int made = group();
        if (made != NONE) {
            groups[made].becomeCopyOf(groups[h]);
            groups[made].growUntilKeptBy(groups[g]);
        }
        return made;
    }

    public int derived(int g) {
        if (!isGroup(g)) {
            return NONE;
        }
        int made = group();
        if (made != NONE) {
            groups[made].becomeDerivedOf(groups[g]);
        }
        return made;
    }

    public int length(int g) {
        if (!isGroup(g)) {
            return NONE;
        }
        Subgroup now = groups[g];
        for (int steps = 0; steps < MOST_STEPS; steps++) {
            if (now.size == 1) {
                return steps;
            }
            Subgroup next = steps % 2 == 0 ? evenSpare : oddSpare;
            next.becomeDerivedOf(now);
            if (next.size == now.size) {
                return NONE;
            }
            now = next;
        }
        return NONE;
    }

    public int clear() {
        int gone = groupCount;
        groupCount = 0;
        permutationCount = 1;
        typed.forget();
        return gone;
    }

    private boolean isPermutation(int a) {
        return a >= 0 && a < permutationCount;
    }

    private boolean isGroup(int g) {
        return g >= 0 && g < groupCount;
    }

    /** Numbers one more permutation, if there is room for it. */
    private int keep(int rank) {
        if (permutationCount >= MOST_PERMUTATIONS) {
            return NONE;
        }
        ranks[permutationCount] = rank;
        permutationCount++;
        return permutationCount - 1;
    }

    /** All permutations of the points, each known by its rank: its place as they are compared. */
    private static final class Symmetry {
        static final int IDENTITY = 0;

        final int points;
        final int size;
        /** The images of one permutation after those of another, in the order of their ranks. */
        private final byte[] table;
        private final int[] row;

        Symmetry(int points) {
            this.points = points;
            size = factorial(points);
            table = new byte[size * points];
            row = new int[points];
            for (int rank = 0; rank < size; rank++) {
                writeImages(rank);
            }
        }

        private static int factorial(int n) {
            int answer = 1;
            for (int factor = 2; factor <= n; factor++) {
                answer *= factor;
            }
            return answer;
        }

        /** A rank's digits, to the bases 1, 2, .. from the right, say which of the points left comes next. */
        private void writeImages(int rank) {
            int rest = rank;
            for (int x = points - 1; x >= 0; x--) {
                row[x] = rest % (points - x);
                rest /= points - x;
            }
            int used = 0;
            for (int x = 0; x < points; x++) {
                int point = unusedPoint(used, row[x]);
                table[rank * points + x] = (byte) point;
                used |= 1 << point;
            }
        }

        private int unusedPoint(int used, int skipped) {
            int left = skipped;
            for (int point = 0; point < points; point++) {
                boolean free = (used >> point & 1) == 0;
                if (free && left == 0) {
                    return point;
                }
                if (free) {
                    left--;
                }
            }
            return 0;
        }

        int rankOf(int[] images) {
            int rank = 0;
            int used = 0;
            for (int x = 0; x < points; x++) {
                int point = images[x];
                int smallerUsed = Integer.bitCount(used & ((1 << point) - 1));
                rank = rank * (points - x) + point - smallerUsed;
                used |= 1 << point;
            }
            return rank;
        }

        int image(int rank, int x) {
            return table[rank * points + x];
        }

        /** First a, then b. */
        int multiply(int a, int b) {
            int fromA = a * points;
            int fromB = b * points;
            for (int x = 0; x < points; x++) {
                row[x] = table[fromB + table[fromA + x]];
            }
            return rankOf(row);
        }

        int invert(int a) {
            for (int x = 0; x < points; x++) {
                row[image(a, x)] = x;
            }
            return rankOf(row);
        }

        int conjugate(int a, int by) {
            return multiply(multiply(invert(by), a), by);
        }

        int commutator(int a, int b) {
            return multiply(multiply(invert(a), invert(b)), multiply(a, b));
        }

        int digits(int rank) {
            int answer = 0;
            for (int x = 0; x < points; x++) {
                answer = answer * 10 + image(rank, x);
            }
            return answer;
        }

        boolean holds(int rank, int heldPoints) {
            for (int x = 0; x < points; x++) {
                if ((heldPoints >> x & 1) != 0 && image(rank, x) != x) {
                    return false;
                }
            }
            return true;
        }
    }

    /** A group: the set of its elements' ranks, and a few generators that are enough. */
    private static final class Subgroup {
        /** A generator that is kept at least doubles the group, and 720 is below 2^10. */
        private static final int MOST_GENERATORS = 10;
        private static final int WORD_BITS = 64;

        int size;
        private final Symmetry symmetry;
        private final long[] members;
        private final int[] generators;
        private int generatorCount;
        /** Lent to all groups of one object for the time of one growth. */
        private final int[] listed;

        Subgroup(Symmetry symmetry, int[] listed) {
            this.symmetry = symmetry;
            this.listed = listed;
            members = new long[(symmetry.size + WORD_BITS - 1) / WORD_BITS];
            generators = new int[MOST_GENERATORS];
            becomeTrivial();
        }

        void becomeTrivial() {
            for (int i = 0; i < members.length; i++) {
                members[i] = 0L;
            }
            mark(Symmetry.IDENTITY);
            size = 1;
            generatorCount = 0;
        }

        void becomeCopyOf(Subgroup other) {
            System.arraycopy(other.members, 0, members, 0, members.length);
            System.arraycopy(other.generators, 0, generators, 0, generators.length);
            size = other.size;
            generatorCount = other.generatorCount;
        }

        void becomeHolderOf(int heldPoints, Subgroup whole) {
            becomeTrivial();
            for (int rank = 0; rank < symmetry.size; rank++) {
                if (whole.has(rank) && symmetry.holds(rank, heldPoints)) {
                    add(rank);
                }
            }
        }

        /** The commutators of generators are enough, once what they generate is kept by the whole group. */
        void becomeDerivedOf(Subgroup whole) {
            becomeTrivial();
            for (int i = 1; i < whole.generatorCount; i++) {
                for (int j = 0; j < i; j++) {
                    add(symmetry.commutator(whole.generators[i], whole.generators[j]));
                }
            }
            growUntilKeptBy(whole);
        }

        /** Generators that come during the growth are conjugated in their turn. */
        void growUntilKeptBy(Subgroup other) {
            for (int i = 0; i < generatorCount && i < MOST_GENERATORS; i++) {
                for (int j = 0; j < other.generatorCount; j++) {
                    add(symmetry.conjugate(generators[i], other.generators[j]));
                }
            }
        }

        boolean isKeptBy(Subgroup other) {
            for (int i = 0; i < generatorCount; i++) {
                for (int j = 0; j < other.generatorCount; j++) {
                    if (!has(symmetry.conjugate(generators[i], other.generators[j]))) {
                        return false;
                    }
                }
            }
            return true;
        }

        /** Grows by whole cosets of what was there before, so that each element is made only once. */
        void add(int generator) {
            if (has(generator) || generatorCount >= MOST_GENERATORS) {
                return;
            }
            generators[generatorCount] = generator;
            generatorCount++;
            int before = size;
            listMembers();
            addCoset(before, generator);
            for (int at = before; at < size && at < listed.length; at += before) {
                for (int i = 0; i < generatorCount; i++) {
                    int next = symmetry.multiply(listed[at], generators[i]);
                    if (!has(next)) {
                        addCoset(before, next);
                    }
                }
            }
        }

        /** The identity is listed first, so the coset's first element is its representative. */
        private void addCoset(int before, int representative) {
            for (int i = 0; i < before && size < listed.length; i++) {
                int rank = symmetry.multiply(listed[i], representative);
                listed[size] = rank;
                mark(rank);
                size++;
            }
        }

        private void listMembers() {
            int found = 0;
            for (int rank = 0; rank < symmetry.size; rank++) {
                if (has(rank)) {
                    listed[found] = rank;
                    found++;
                }
            }
        }

        private void mark(int rank) {
            members[rank / WORD_BITS] |= 1L << rank % WORD_BITS;
        }

        boolean has(int rank) {
            return (members[rank / WORD_BITS] >>> rank % WORD_BITS & 1L) != 0L;
        }

        int member(int place) {
            int left = place;
            for (int rank = 0; rank < symmetry.size; rank++) {
                if (has(rank)) {
                    if (left == 0) {
                        return rank;
                    }
                    left--;
                }
            }
            return Symmetry.IDENTITY;
        }

        int leastOfCoset(int representative) {
            int answer = representative;
            for (int rank = 0; rank < symmetry.size; rank++) {
                if (has(rank)) {
                    answer = Math.min(answer, symmetry.multiply(representative, rank));
                }
            }
            return answer;
        }

        int pointsReachedFrom(int x) {
            int reached = 0;
            for (int rank = 0; rank < symmetry.size; rank++) {
                if (has(rank)) {
                    reached |= 1 << symmetry.image(rank, x);
                }
            }
            return reached;
        }

        boolean liesIn(Subgroup other) {
            for (int i = 0; i < members.length; i++) {
                if ((members[i] & ~other.members[i]) != 0L) {
                    return false;
                }
            }
            return true;
        }
    }

    /** What is typed, and its reading as cycles. */
    private static final class CycleText {
        static final int NO_FAULT = -1;
        private static final int MOST_CHARACTERS = 40;
        private static final int MOST_AT_ONCE = 4;
        private static final int LOWEST_CHARACTER = 32;
        private static final int HIGHEST_CHARACTER = 126;
        private static final int NO_POINT = -1;

        /** The images that the last parse without a fault found. */
        final int[] parsed;
        private final int points;
        private final char[] text;
        private int end;
        private boolean open;
        private int first;
        private int last;
        private int seen;

        CycleText(int points) {
            this.points = points;
            parsed = new int[points];
            text = new char[MOST_CHARACTERS];
            end = 0;
        }

        boolean append(int word, int n) {
            if (n < 1 || n > MOST_AT_ONCE || end + n > MOST_CHARACTERS) {
                return false;
            }
            for (int i = 0; i < n; i++) {
                int character = lowByte(word, i);
                if (character < LOWEST_CHARACTER || character > HIGHEST_CHARACTER) {
                    return false;
                }
            }
            for (int i = n - 1; i >= 0; i--) {
                text[end] = (char) lowByte(word, i);
                end++;
            }
            return true;
        }

        private static int lowByte(int word, int place) {
            return word >>> 8 * place & 255;
        }

        void forget() {
            end = 0;
        }

        /** Where the text is faulty, or NO_FAULT. */
        int parse() {
            for (int x = 0; x < points; x++) {
                parsed[x] = x;
            }
            open = false;
            seen = 0;
            for (int at = 0; at < end; at++) {
                if (text[at] != ' ' && !take(text[at])) {
                    return at;
                }
            }
            return open ? end : NO_FAULT;
        }

        private boolean take(char character) {
            if (!open) {
                return character == '(' && openBracket();
            }
            return character == ')' ? closeBracket() : takePoint(character - '0');
        }

        private boolean openBracket() {
            open = true;
            first = NO_POINT;
            last = NO_POINT;
            return true;
        }

        private boolean closeBracket() {
            if (first == NO_POINT) {
                return false;
            }
            parsed[last] = first;
            open = false;
            return true;
        }

        private boolean takePoint(int point) {
            if (point < 0 || point >= points || (seen >> point & 1) != 0) {
                return false;
            }
            if (first == NO_POINT) {
                first = point;
            } else {
                parsed[last] = point;
            }
            last = point;
            seen |= 1 << point;
            return true;
        }
    }
}
