/** A test for each sentence of the document's beginning and of its Terms that names a boundary case. */
public final class TermBoundaries {
    private static final int[] IDENTITIES = {0, 0, 1, 12, 123, 1234, 12345};
    private static final int[] REVERSALS = {0, 0, 10, 210, 3210, 43210, 543210};
    private static final String FORTY_SPACES = " ".repeat(40);

    public static void main(String[] args) {
        Checks.sentence("used for at most 512 calls", TermBoundaries::callsOfAnObject);
        Checks.sentence("Points are 0 .. N - 1", TermBoundaries::pointsInTexts);
        Checks.sentence("Points are 0 .. N - 1", TermBoundaries::pointsOfOrbits);
        Checks.sentence("Permutations are numbered from 0 as they come", TermBoundaries::permutationsAsTheyCome);
        Checks.sentence("Permutations: at most 40", TermBoundaries::theFortiethPermutation);
        Checks.sentence("number 0 is the identity, which is there at first", TermBoundaries::theIdentityAtFirst);
        Checks.sentence("Compared by the images of 0, then of 1, and so on", TermBoundaries::firstAndLastElement);
        Checks.sentence("A text is a row of characters 32 .. 126", TermBoundaries::charactersOfTexts);
        Checks.sentence("any number of ( points ) in a row, maybe none", TermBoundaries::numberOfBrackets);
        Checks.sentence("the points being single digits 0 .. N - 1", TermBoundaries::singleDigits);
        Checks.sentence("at least one in each bracket", TermBoundaries::pointsInBrackets);
        Checks.sentence("spaces may stand between all these", TermBoundaries::spacesBetween);
        Checks.sentence("No point stands twice", TermBoundaries::noPointTwice);
        Checks.sentence("each point in a bracket to the next one", TermBoundaries::toTheNext);
        Checks.sentence("the last to the first", TermBoundaries::lastToFirst);
        Checks.sentence("all others to themselves", TermBoundaries::othersToThemselves);
        Checks.sentence("at the first character that cannot be as it is", TermBoundaries::faultAtFirstCharacter);
        Checks.sentence("read from the left", TermBoundaries::faultFromTheLeft);
        Checks.sentence("a point that stood before: at it", TermBoundaries::faultAtPointThatStoodBefore);
        Checks.sentence("the end: at its length", TermBoundaries::faultAtEnd);
        Checks.sentence("Groups are numbered from 0 as they are made", TermBoundaries::groupsAsTheyAreMade);
        Checks.sentence("Groups: at most 12", TermBoundaries::theTwelfthGroup);
        Checks.sentence("products of any number (also none)", TermBoundaries::productsOfNone);
        Checks.sentence("a list of generators, which only grows", TermBoundaries::generatorsOnlyGrow);
        Checks.sentence("the commutator of a and b", TermBoundaries::commutators);
        Checks.sentence("the normal closure of H in G", TermBoundaries::closuresAtTheEdges);
        Checks.sentence("normal in G if it lies in G", TermBoundaries::normalOnlyInside);
        Checks.sentence("normal if it is its own normal closure", TermBoundaries::normalIfOwnClosure);
        Checks.sentence("derived length: 0 if it is so at once", TermBoundaries::lengthNothing);
        Checks.sentence("G is solvable if there is one", TermBoundaries::solvable);
        Checks.sentence("the coset of a by G is all a * g", TermBoundaries::cosetsAtTheEdges);
        Checks.sentence("a refused call changes nothing", TermBoundaries::refusedOneAfterAnother);
        Checks.end();
    }

    private static void callsOfAnObject() {
        Run run = new Run(4);
        for (int call = 0; call < Run.MOST_CALLS; call += 4) {
            run.due(1, "type", Run.word("(01)"), 4).due(1, "read").due(0, "group").due(1, "clear");
        }
    }

    private static void pointsInTexts() {
        for (int n = 2; n <= 6; n++) {
            Run run = new Run(n);
            run.reads(1, "(0)").reads(2, "(" + (n - 1) + ")");
            for (int point = n; point <= 9; point++) {
                run.reads(-2, "(" + point + ")");
            }
            run.due(-1, "images", 3);
        }
    }

    private static void pointsOfOrbits() {
        for (int n = 2; n <= 6; n++) {
            Run run = new Run(n).due(0, "group");
            run.due(1, "orbit", 0, 0).due(1 << n - 1, "orbit", 0, n - 1);
            run.due(-1, "orbit", 0, n).due(-1, "orbit", 0, -1);
        }
    }

    private static void permutationsAsTheyCome() {
        Run run = new Run(4).due(0, "group");
        run.reads(1, "(012)").due(2, "product", 1, 1).due(3, "inverse", 1).due(4, "element", 0, 0);
        run.due(5, "least", 0, 1).reads(6, "(012)");
        // Equal ones have numbers of their own.
        run.due(2013, "images", 2).due(2013, "images", 3).due(123, "images", 4);
        run.due(1203, "images", 5).due(1203, "images", 6).due(-1, "images", 7);
    }

    private static void theFortiethPermutation() {
        String[] calls = {"read", "product", "inverse", "element", "least"};
        for (String call : calls) {
            Run run = Scenes.furnished().fillPermutations(39);
            run.due(-1, "images", 39).due(39, call, 0, 0).due(123, "images", 39).due(-1, "images", 40);
            run.unchanged("read".equals(call) ? -1000 : -1, call, 0, 0);
        }
    }

    private static void theIdentityAtFirst() {
        for (int n = 2; n <= 6; n++) {
            new Run(n).due(IDENTITIES[n], "images", 0).due(-1, "images", 1).due(1, "product", 0, 0)
                .due(IDENTITIES[n], "images", 1);
        }
    }

    private static void firstAndLastElement() {
        int order = 1;
        for (int n = 2; n <= 6; n++) {
            order *= n;
            Run run = wholeGroup(n);
            run.due(3, "element", 0, 0).due(IDENTITIES[n], "images", 3);
            run.due(4, "element", 0, order - 1).due(REVERSALS[n], "images", 4);
            run.due(-1, "element", 0, order).due(-1, "images", 5);
        }
        Run run = wholeGroup(4);
        run.due(3, "element", 0, 1).due(132, "images", 3);
        run.due(4, "element", 0, 5).due(321, "images", 4);
        run.due(5, "element", 0, 6).due(1023, "images", 5);
        run.due(6, "element", 0, 22).due(3201, "images", 6);
    }

    private static Run wholeGroup(int n) {
        Run run = new Run(n);
        run.reads(1, "(012345".substring(0, n + 1) + ")").reads(2, "(01)");
        run.due(0, "group");
        run.ask("generate", 0, 1);
        run.ask("generate", 0, 2);
        return run;
    }

    private static void charactersOfTexts() {
        Run run = new Run(4);
        for (int character = 0; character < 256; character++) {
            run.due(character >= 32 && character <= 126 ? 1 : 0, "type", character, 1);
            if (character % 32 == 31) {
                run.ask("read");
            }
        }
    }

    private static void numberOfBrackets() {
        for (int n = 2; n <= 6; n++) {
            Run run = new Run(n).readsAs(IDENTITIES[n], "");
            for (int brackets = 1; brackets <= n; brackets++) {
                run.readsAs(IDENTITIES[n], "(0)(1)(2)(3)(4)(5)".substring(0, 3 * brackets));
            }
        }
        new Run(6).readsAs(103254, "(01)(23)(45)").readsAs(123450, "(012345)");
    }

    private static void singleDigits() {
        new Run(2).readsAs(10, "(10)").reads(-2, "(2)");
        new Run(6).readsAs(102345, "(10)").readsAs(12345, "(5)").reads(-2, "(6)").reads(-2, "(9)");
        // The characters just below '0' and just above '9'.
        new Run(6).reads(-2, "(/)").reads(-2, "(:)").reads(-3, "(0/)").reads(-3, "(0:)").reads(-2, "(-1)");
        new Run(6).reads(-2, "(a)").reads(-2, "(~)").reads(-3, "(0,1)");
    }

    private static void pointsInBrackets() {
        Run run = Scenes.furnished();
        run.copy().reads(-2, "()").sameAs(run, "reading '()'");
        run.copy().reads(-3, "( )").sameAs(run, "reading '( )'");
        run.copy().reads(-5, "(0)()").sameAs(run, "reading '(0)()'");
        run.copy().reads(-2, "()(0)").sameAs(run, "reading '()(0)'");
        run.copy().reads(-11, "(0 1 2 3)()").sameAs(run, "reading '(0 1 2 3)()'");
        run.readsAs(123, "(0)").readsAs(123, "( 3 )").readsAs(3012, "(0321)");
    }

    private static void spacesBetween() {
        Run run = new Run(4);
        run.readsAs(123, " ").readsAs(123, FORTY_SPACES);
        run.readsAs(1032, "(01)(23)").readsAs(1032, "  (  0  1  )  (  2  3  )  ");
        run.readsAs(1023, " (01)").readsAs(1023, "( 01)").readsAs(1023, "(0 1)").readsAs(1023, "(01 )");
        run.readsAs(1023, "(01) ").readsAs(1032, "(01) (23)");
        run.readsAs(1023, FORTY_SPACES.substring(4) + "(01)").readsAs(1023, "(0" + FORTY_SPACES.substring(4) + "1)");
    }

    private static void noPointTwice() {
        for (int n = 2; n <= 6; n++) {
            for (int point = 0; point < n; point++) {
                new Run(n).reads(-3, "(" + point + point + ")").reads(-5, "(" + point + ")(" + point + ")")
                    .reads(1, "(" + point + ")");
            }
        }
        new Run(6).reads(-8, "(012345012345)").reads(1, "(012345)");
    }

    private static void toTheNext() {
        new Run(2).readsAs(1, "(0)(1)").readsAs(10, "(01)").readsAs(10, "(10)");
        new Run(6).readsAs(123450, "(012345)").readsAs(501234, "(543210)").readsAs(345012, "(03)(14)(25)");
    }

    private static void lastToFirst() {
        new Run(6).readsAs(12345, "(5)").readsAs(512340, "(05)").readsAs(512340, "(50)").readsAs(52341, "(15)");
        new Run(4).readsAs(3012, "(032 1)").readsAs(3201, "(0312)").readsAs(2130, "(023)");
    }

    private static void othersToThemselves() {
        new Run(6).readsAs(102345, "(01)").readsAs(12354, "(45)").readsAs(12345, "").readsAs(32145, "(13)");
        new Run(2).readsAs(1, "(1)");
    }

    private static void faultAtFirstCharacter() {
        for (char character = 33; character <= 126; character++) {
            if (character != '(') {
                new Run(4).reads(-1, "" + character);
            }
            if (character != ')' && (character < '0' || character > '3')) {
                new Run(4).reads(-2, "(" + character);
            }
        }
        new Run(4).reads(-2, "((0)").reads(-4, "(01(2))").reads(-5, "(01))").reads(-4, "(0)1");
        // At the last place that a text has.
        new Run(4).reads(-40, FORTY_SPACES.substring(1) + ")").reads(-40, "(01" + FORTY_SPACES.substring(4) + "x");
    }

    private static void faultFromTheLeft() {
        new Run(4).reads(-1, ")(").reads(-2, "()x").reads(-3, "(00").reads(-4, "(01x0)").reads(-5, "(0120x)");
        new Run(4).reads(-1, "x(0").reads(-6, "(0)(1(");
    }

    private static void faultAtPointThatStoodBefore() {
        new Run(4).reads(-3, "(00)").reads(-4, "(010)").reads(-7, "(123)(1)");
        new Run(4).reads(-8, "(0123)(0)").reads(-8, "(0123)(3)").reads(-5, "(3)(3)").reads(-6, "(3) (3)");
        new Run(4).reads(-40, "(3" + FORTY_SPACES.substring(3) + "3");
        // Also where no point is left that could stand there.
        new Run(2).reads(-4, "(010)").reads(-6, "(01)(1)");
    }

    private static void faultAtEnd() {
        new Run(4).reads(-2, "(").reads(-3, "( ").reads(-3, "(0").reads(-4, "(0 ").reads(-6, "(0123");
        new Run(4).reads(-5, "(0)(").reads(-8, "(0123)(").reads(-9, "(0123)( ");
        new Run(4).reads(-40, "(" + FORTY_SPACES.substring(2)).reads(-41, "(" + FORTY_SPACES.substring(1));
        new Run(4).reads(-41, FORTY_SPACES.substring(1) + "(").reads(-41, FORTY_SPACES.substring(2) + "(0");
    }

    private static void groupsAsTheyAreMade() {
        Run run = wholeGroup(4);
        run.due(1, "group").due(2, "hold", 0, 1).due(3, "closure", 0, 2).due(4, "derived", 0).due(5, "group");
        run.due(24, "order", 0).due(1, "order", 1).due(6, "order", 2).due(24, "order", 3).due(12, "order", 4);
        // Equal ones have numbers of their own.
        run.due(1, "order", 5).due(3, "compare", 1, 5).due(2, "generate", 5, 2).due(1, "order", 1);
    }

    private static void theTwelfthGroup() {
        String[] calls = {"group", "hold", "closure", "derived"};
        int[] orders = {1, 24, 24, 12};
        for (int i = 0; i < calls.length; i++) {
            Run run = Scenes.furnished().fillGroups(11);
            run.due(-1, "order", 11).due(11, calls[i], 0, 0).due(orders[i], "order", 11).due(-1, "order", 12);
            run.unchanged(-1, calls[i], 0, 0);
        }
    }

    private static void productsOfNone() {
        for (int n = 2; n <= 6; n++) {
            Run run = new Run(n).due(0, "group").due(1, "order", 0).due(1, "contains", 0, 0);
            run.due(1, "element", 0, 0).due(IDENTITIES[n], "images", 1).due(-1, "element", 0, 1);
            run.reads(2, "(01)").due(0, "contains", 0, 2);
        }
    }

    private static void generatorsOnlyGrow() {
        Run run = new Run(6).due(0, "group");
        // Each of them twice, and the identity among them: more generators than a group can need.
        String[] swaps = {"(01)", "(12)", "(23)", "(34)", "(45)"};
        int[] orders = {2, 6, 24, 120, 720};
        for (int i = 0; i < swaps.length; i++) {
            run.reads(i + 1, swaps[i]);
            run.due(orders[i], "generate", 0, i + 1).due(orders[i], "generate", 0, i + 1)
                .due(orders[i], "generate", 0, 0);
            run.due(1, "contains", 0, 1);
        }
        for (int i = 0; i < 100; i++) {
            run.due(720, "generate", 0, i % 6);
        }
        run.due(720, "order", 0).due(1, "derived", 0).due(360, "order", 1);
    }

    private static void commutators() {
        // None but the identity: of nothing, of one generator, of two that can change places.
        Run run = new Run(6);
        int[] groups = {run.groupOf(), run.groupOf("(012345)"), run.groupOf("(01)", "(2345)")};
        for (int g : groups) {
            int made = run.ask("derived", g);
            run.due(1, "order", made);
        }
        int two = run.groupOf("(01)", "(12)");
        int made = run.ask("derived", two);
        run.due(3, "order", made);
    }

    private static void closuresAtTheEdges() {
        Run run = new Run(4);
        int trivial = run.groupOf();
        int swap = run.groupOf("(01)");
        int whole = run.groupOf("(0123)", "(01)");
        int four = run.groupOf("(01)(23)", "(02)(13)");
        int[][] cases = {
            {trivial, trivial, 1}, {trivial, swap, 2}, {swap, trivial, 1}, {swap, swap, 2}, {whole, swap, 24},
            {swap, whole, 24}, {four, swap, 4}, {swap, four, 4}
        };
        for (int[] each : cases) {
            int made = run.ask("closure", each[0], each[1]);
            run.due(each[2], "order", made);
        }
        run.due(2, "order", swap).due(1, "order", trivial).due(4, "order", four);
    }

    private static void normalOnlyInside() {
        Run run = new Run(4);
        int trivial = run.groupOf();
        int two = run.groupOf("(01)");
        int other = run.groupOf("(23)");
        int whole = run.groupOf("(0123)", "(01)");
        // Each of these is kept by the other group, but does not lie in it.
        run.due(0, "normal", trivial, two).due(0, "normal", two, other).due(0, "normal", two, whole);
        run.due(1, "normal", two, trivial).due(1, "normal", trivial, trivial).due(1, "normal", whole, whole);
    }

    private static void normalIfOwnClosure() {
        Run run = new Run(4);
        int two = run.groupOf("(01)");
        int three = run.groupOf("(012)");
        int six = run.groupOf("(012)", "(01)");
        int four = run.groupOf("(01)(23)", "(02)(13)");
        int even = run.groupOf("(012)", "(123)");
        int whole = run.groupOf("(0123)", "(01)");
        run.due(0, "normal", six, two).due(1, "normal", six, three).due(0, "normal", whole, three);
        run.due(1, "normal", whole, four).due(1, "normal", even, four).due(1, "normal", whole, even);
        run.due(0, "normal", whole, six).due(0, "normal", even, three);
    }

    private static void lengthNothing() {
        for (int n = 2; n <= 6; n++) {
            new Run(n).due(0, "group").due(0, "length", 0).due(1, "generate", 0, 0).due(0, "length", 0)
                .reads(1, "(01)").due(2, "generate", 0, 1).due(1, "length", 0);
        }
    }

    private static void solvable() {
        int[] lengths = {0, 0, 1, 2, 3, -1, -1};
        int[] evenLengths = {0, 0, 0, 1, 2, -1, -1};
        for (int n = 2; n <= 6; n++) {
            wholeGroup(n).due(lengths[n], "length", 0).due(1, "derived", 0).due(evenLengths[n], "length", 1);
        }
        Run run = new Run(6);
        int wreath = run.groupOf("(012)", "(01)", "(03)(14)(25)");
        int affine = run.groupOf("(01234)", "(1243)");
        int icosahedral = run.groupOf("(01234)", "(05)(14)");
        run.due(3, "length", wreath).due(20, "order", affine).due(2, "length", affine);
        run.due(60, "order", icosahedral).due(-1, "length", icosahedral);
    }

    private static void cosetsAtTheEdges() {
        Run run = wholeGroup(4);
        int trivial = run.groupOf();
        // By the whole group the least of all, by the trivial one the permutation itself.
        run.due(3, "least", 0, 1).due(123, "images", 3).due(4, "least", trivial, 1).due(1230, "images", 4);
        int two = run.groupOf("(01)");
        // a * g, not g * a: (01) changes the images 0 and 1, not those of 0 and 1.
        run.reads(6, "(0321)").due(7, "least", two, 6).due(3012, "images", 7);
        run.due(8, "least", two, 1).due(231, "images", 8).due(-1, "images", 9);
    }

    private static void refusedOneAfterAnother() {
        Run full = Scenes.full();
        Run tried = full.copy();
        for (int i = 0; i < 3; i++) {
            tried.due(0, "type", 31, 1).due(0, "type", Run.word("abcd"), 5).due(-1, "product", 0, 1);
            tried.due(-1, "inverse", 1).due(-1, "group").due(-1, "generate", 12, 1).due(-1, "generate", 2, 40);
            tried.due(-1, "element", 0, 1).due(-1, "element", 0, 24).due(-1, "least", 1, 1);
            tried.due(-1, "hold", 0, 1).due(-1, "hold", 0, 16).due(-1, "closure", 0, 1).due(-1, "derived", 0);
        }
        tried.sameAs(full, "what was refused");
    }
}
