/** States to begin with, and numbers of things that are not there. */
final class Scenes {
    static final int LEAST = Integer.MIN_VALUE;
    static final int MOST = Integer.MAX_VALUE;
    static final int PERMUTATIONS = 5;
    static final int GROUPS = 5;

    private Scenes() {
    }

    /** Some permutations and groups of four points, and nothing typed. */
    static Run furnished() {
        return furnish(new Run(4));
    }

    /** What furnished makes, in a run that has nothing yet, or nothing any more. */
    static Run furnish(Run run) {
        run.reads(1, "(0123)").reads(2, "(01)").reads(3, "(02)(13)").reads(4, "(012)");
        for (int g = 0; g < 4; g++) {
            run.due(g, "group");
        }
        run.due(4, "generate", 0, 1).due(24, "generate", 0, 2);
        run.due(2, "generate", 1, 3);
        run.due(4, "generate", 3, 1);
        return run.due(4, "derived", 0);
    }

    /** The same with a text that is not yet read. */
    static Run typed() {
        return furnished().types(" (2 3)");
    }

    /** All places for permutations are taken, and nothing is typed. */
    static Run allPermutations() {
        return furnished().fillPermutations(Run.MOST_PERMUTATIONS);
    }

    /** All places for groups are taken, by groups of many kinds, and nothing is typed. */
    static Run allGroups() {
        Run run = furnished();
        run.due(5, "hold", 0, 1).due(6, "closure", 0, 1).due(7, "derived", 4);
        return run.fillGroups(Run.MOST_GROUPS).due(2, "generate", 8, 2).due(3, "generate", 11, 4);
    }

    /** No place is left for a permutation or a group, and a text is typed. */
    static Run full() {
        return allGroups().fillPermutations(Run.MOST_PERMUTATIONS).types(" (2 3)");
    }

    /** The neighbours of 0 .. count - 1, the ends of int, and numbers whose lowest bits look like one of them. */
    static int[] outside(int count) {
        return new int[] {
            -1, -2, -count, count, count + 1, 2 * count, 64, 256, 1 << 16, 1 << 31 | 1, LEAST, MOST - 1, MOST
        };
    }
}
