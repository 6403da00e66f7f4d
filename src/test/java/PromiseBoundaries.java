/**
 * A test for each sentence of the promises that names a boundary case: the smallest and the largest that is taken,
 * their neighbours that are not, the ends of int, nothing there, all places taken; and what is refused changes nothing.
 */
public final class PromiseBoundaries {
    private static final int LEAST = Scenes.LEAST;
    private static final int MOST = Scenes.MOST;
    private static final int[] IDENTITIES = {0, 0, 1, 12, 123, 1234, 12345};
    private static final int[] REVERSALS = {0, 0, 10, 210, 3210, 43210, 543210};
    private static final int[] FACTORIALS = {1, 1, 2, 6, 24, 120, 720};
    private static final String FORTY_SPACES = " ".repeat(40);

    public static void main(String[] args) {
        Checks.sentence("1: N is n if that is 2 .. 6", PromiseBoundaries::numbersOfPointsTaken);
        Checks.sentence("1: else 4", PromiseBoundaries::numbersOfPointsNotTaken);
        Checks.sentence("1: One permutation", PromiseBoundaries::onePermutation);
        Checks.sentence("1: no groups", PromiseBoundaries::noGroups);
        Checks.sentence("1: nothing typed", PromiseBoundaries::nothingTyped);
        typeSentences();
        readSentences();
        permutationSentences();
        groupSentences();
        elementSentences();
        newGroupSentences();
        comparingSentences();
        clearSentences();
        Checks.end();
    }

    private static void typeSentences() {
        Checks.sentence("2: the n lowest bytes of word", PromiseBoundaries::lowestBytes);
        Checks.sentence("2: the highest of them first", PromiseBoundaries::highestFirst);
        Checks.sentence("2: refused if n is not 1 .. 4", PromiseBoundaries::typeNumberOfBytes);
        Checks.sentence("2: refused if one of them is not 32 .. 126", PromiseBoundaries::typeCharacters);
        Checks.sentence("2: refused if more than 40 would be there", PromiseBoundaries::typeMoreThanForty);
    }

    private static void readSentences() {
        Checks.sentence("3: the permutation whose cycles are typed", PromiseBoundaries::readNothing);
        Checks.sentence("3: nothing is typed then, in any case", PromiseBoundaries::nothingTypedAfterRead);
        Checks.sentence("3: its number", PromiseBoundaries::numbersRead);
        Checks.sentence("3: -1 - p if the text is faulty at p", PromiseBoundaries::faultsRead);
        Checks.sentence("3: -1000, refused, if there are 40", PromiseBoundaries::readWithForty);
    }

    private static void permutationSentences() {
        Checks.sentence("4: the product a * b: its number", PromiseBoundaries::productNumbers);
        Checks.sentence("4: refused if one of them is not there", PromiseBoundaries::productOfNone);
        Checks.sentence("4: refused if there are 40", PromiseBoundaries::productWithForty);
        Checks.sentence("5: the inverse of a: its number", PromiseBoundaries::inverseNumbers);
        Checks.sentence("5: refused if it is not there", PromiseBoundaries::inverseOfNone);
        Checks.sentence("5: refused if there are 40", PromiseBoundaries::inverseWithForty);
        Checks.sentence("6: the sum of p(x) * 10^(N - 1 - x)", PromiseBoundaries::leastAndMostImages);
        Checks.sentence("6: -1 if there is none", PromiseBoundaries::imagesOfNone);
    }

    private static void groupSentences() {
        Checks.sentence("7: without generators: its number", PromiseBoundaries::groupNumbers);
        Checks.sentence("7: refused if there are 12", PromiseBoundaries::groupWithTwelve);
        Checks.sentence("8: how many elements g has then", PromiseBoundaries::generateLeastAndMost);
        Checks.sentence("8: one more generator, also with all places taken", PromiseBoundaries::generateWhenFull);
        Checks.sentence("8: refused if one of them is not there", PromiseBoundaries::generateOfNone);
        Checks.sentence("9: how many elements group g has", PromiseBoundaries::leastAndMostOrder);
        Checks.sentence("9: -1 if there is none", PromiseBoundaries::orderOfNone);
        Checks.sentence("10: whether permutation a is in group g", PromiseBoundaries::containsAtTheEdges);
        Checks.sentence("10: false if one of them is not there", PromiseBoundaries::containsOfNone);
    }

    private static void elementSentences() {
        Checks.sentence("11: element k (from 0): its number", PromiseBoundaries::elementFirstAndLast);
        Checks.sentence("11: refused if there is no such group", PromiseBoundaries::elementOfNoGroup);
        Checks.sentence("11: refused if there is no such element", PromiseBoundaries::noSuchElement);
        Checks.sentence("11: refused if there are 40 permutations", PromiseBoundaries::elementWithForty);
        Checks.sentence("12: the least of the coset: its number", PromiseBoundaries::leastAtTheEdges);
        Checks.sentence("12: refused if one of them is not there", PromiseBoundaries::leastOfNone);
        Checks.sentence("12: refused if there are 40 permutations", PromiseBoundaries::leastWithForty);
        Checks.sentence("13: the sum of 2^point", PromiseBoundaries::leastAndMostOrbit);
        Checks.sentence("13: -1 if there is no such group", PromiseBoundaries::orbitOfNoGroup);
        Checks.sentence("13: -1 if there is no such point", PromiseBoundaries::orbitOfNoPoint);
    }

    private static void newGroupSentences() {
        Checks.sentence("14: the elements of g that hold a set", PromiseBoundaries::holdNoneAndAll);
        Checks.sentence("14: refused if there is no such group", PromiseBoundaries::holdOfNoGroup);
        Checks.sentence("14: refused if points is not 0 .. 2^N - 1", PromiseBoundaries::holdOfNoSet);
        Checks.sentence("14: refused if there are 12 groups", PromiseBoundaries::holdWithTwelve);
        Checks.sentence("17: the normal closure of h in g: its number", PromiseBoundaries::closureNumbers);
        Checks.sentence("17: refused if one of them is not there", PromiseBoundaries::closureOfNone);
        Checks.sentence("17: refused if there are 12", PromiseBoundaries::closureWithTwelve);
        Checks.sentence("18: the derived group of g: its number", PromiseBoundaries::derivedNumbers);
        Checks.sentence("18: refused if there is none", PromiseBoundaries::derivedOfNone);
        Checks.sentence("18: refused if there are 12", PromiseBoundaries::derivedWithTwelve);
        Checks.sentence("14, 17, 18: a new group", PromiseBoundaries::newGroupsStandAlone);
    }

    private static void comparingSentences() {
        Checks.sentence("15: 3, 1, else 2, else 0", PromiseBoundaries::compareAtTheEdges);
        Checks.sentence("15: -1 if one of them is not there", PromiseBoundaries::compareOfNone);
        Checks.sentence("16: whether h is normal in g", PromiseBoundaries::normalAtTheEdges);
        Checks.sentence("16: false if one of them is not there", PromiseBoundaries::normalOfNone);
        Checks.sentence("19: the derived length of g", PromiseBoundaries::lengthLeastAndMost);
        Checks.sentence("19: -1 if it is not solvable", PromiseBoundaries::lengthNotSolvable);
        Checks.sentence("19: -1 if there is none", PromiseBoundaries::lengthOfNone);
    }

    private static void clearSentences() {
        Checks.sentence("20: all groups are gone", PromiseBoundaries::clearGroups);
        Checks.sentence("20: and the permutations but the identity", PromiseBoundaries::clearPermutations);
        Checks.sentence("20: and what is typed", PromiseBoundaries::clearText);
        Checks.sentence("20: how many groups there were", PromiseBoundaries::clearCounts);
    }

    // Promise 1: a new object

    private static void numbersOfPointsTaken() {
        for (int n = 2; n <= 6; n++) {
            hasPoints(n, n);
        }
    }

    private static void numbersOfPointsNotTaken() {
        int[] others = {
            1, 7, 0, -1, -2, -6, 8, 9, 10, 16, 258, 1 << 16 | 5, 1 << 31 | 3, LEAST, LEAST + 6, MOST - 1, MOST
        };
        for (int n : others) {
            hasPoints(n, 4);
        }
    }

    private static void hasPoints(int n, int due) {
        Run run = new Run(n);
        run.due(IDENTITIES[due], "images", 0).reads(1, "(" + (due - 1) + ")").reads(-2, "(" + due + ")");
        run.due(0, "group").due(1 << due - 1, "orbit", 0, due - 1).due(-1, "orbit", 0, due);
        run.due(-1, "hold", 0, 1 << due).due(1, "hold", 0, (1 << due) - 1);
    }

    private static void onePermutation() {
        for (int n = 2; n <= 6; n++) {
            Run run = new Run(n).due(IDENTITIES[n], "images", 0);
            for (int a : Scenes.outside(1)) {
                run.due(-1, "images", a);
            }
            run.due(1, "product", 0, 0);
        }
    }

    private static void noGroups() {
        Run run = new Run(4).due(-1, "order", 0).due(0, "contains", 0, 0).due(-1, "element", 0, 0);
        run.due(-1, "orbit", 0, 0).due(-1, "hold", 0, 0).due(-1, "compare", 0, 0).due(0, "normal", 0, 0);
        run.due(-1, "closure", 0, 0).due(-1, "derived", 0).due(-1, "length", 0).due(-1, "least", 0, 0);
        run.due(-1, "generate", 0, 0).due(0, "clear").due(0, "group");
    }

    private static void nothingTyped() {
        new Run(4).reads(1, "").due(123, "images", 1);
        new Run(4).types(FORTY_SPACES).due(0, "type", ' ', 1).due(1, "read");
        new Run(4).reads(-1, "x");
    }

    // Promise 2: type

    private static void lowestBytes() {
        int word = Run.word("(01)");
        new Run(4).due(1, "type", word, 1).due(-1, "read");
        new Run(4).due(1, "type", word, 2).due(-1, "read");
        new Run(4).due(1, "type", '(', 1).due(1, "type", word, 3).due(1, "read").due(1023, "images", 1);
        new Run(4).due(1, "type", word, 4).due(1, "read").due(1023, "images", 1);
        // What stands above them may be anything.
        new Run(4).due(1, "type", '(', 1).due(1, "type", 0xFF7F1F00 | '0', 1)
            .due(1, "type", 0x001F0000 | Run.word("1)"), 2).due(1, "read").due(1023, "images", 1);
        new Run(4).due(1, "type", '(', 1).due(1, "type", LEAST | Run.word("23)"), 3).due(1, "read")
            .due(132, "images", 1);
    }

    private static void highestFirst() {
        new Run(4).due(1, "type", Run.word("(0"), 2).due(1, "type", Run.word("12)"), 3).due(1, "read")
            .due(1203, "images", 1);
        new Run(4).due(1, "type", Run.word("(312"), 4).due(1, "type", ')', 1).due(1, "read")
            .due(231, "images", 1);
        new Run(4).due(1, "type", Run.word(")0("), 3).due(-1, "read");
    }

    private static void typeNumberOfBytes() {
        int word = Run.word("(01)");
        int[] wrong = {0, 5, -1, -4, 6, 8, 40, 41, 257, 1 << 16 | 4, 1 << 31 | 2, LEAST, LEAST + 4, MOST - 1, MOST};
        for (int n : wrong) {
            new Run(4).unchanged(0, "type", word, n);
            Scenes.typed().unchanged(0, "type", word, n);
        }
        for (int n = 1; n <= 4; n++) {
            new Run(4).due(1, "type", word, n);
        }
    }

    private static void typeCharacters() {
        int[] wrong = {31, 127, 0, 1, 9, 10, 128, 160, 254, 255};
        for (int n = 1; n <= 4; n++) {
            for (int place = 0; place < n; place++) {
                int others = Run.word("    ") & ~(255 << 8 * place);
                Run typed = Scenes.typed();
                for (int character : wrong) {
                    typed.unchanged(0, "type", others | character << 8 * place, n);
                }
                new Run(4).due(1, "type", others | 32 << 8 * place, n).due(1, "read");
                new Run(4).due(1, "type", others | 126 << 8 * place, n).due(place - n, "read");
            }
        }
        for (int word : new int[] {LEAST, MOST, 0, -1, 0x1F1F1F1F, 0x7F7F7F7F}) {
            for (int n = 1; n <= 4; n++) {
                Scenes.typed().unchanged(0, "type", word, n);
            }
        }
        new Run(4).due(1, "type", 0x20202020, 4).due(1, "type", 0x7E7E7E7E, 4).due(-5, "read");
    }

    private static void typeMoreThanForty() {
        int spaces = Run.word("    ");
        for (int n = 1; n <= 4; n++) {
            Run fits = Scenes.furnished().types(FORTY_SPACES.substring(n));
            fits.due(1, "type", spaces, n).due(0, "type", spaces, 1).due(5, "read");
            Run tooMany = Scenes.furnished().types("(" + FORTY_SPACES.substring(n));
            for (int more = n; more <= 4; more++) {
                tooMany.unchanged(0, "type", spaces, more);
            }
        }
        Run full = new Run(4).types("(" + FORTY_SPACES.substring(1));
        for (int n : new int[] {0, 1, 2, 3, 4, 5, -1, LEAST, MOST - 40, MOST}) {
            full.unchanged(0, "type", spaces, n);
        }
        full.due(-41, "read").types(FORTY_SPACES).due(0, "type", ' ', 1);
    }

    // Promise 3: read

    private static void readNothing() {
        for (int n = 2; n <= 6; n++) {
            new Run(n).readsAs(IDENTITIES[n], "").readsAs(IDENTITIES[n], " ").readsAs(IDENTITIES[n], FORTY_SPACES);
        }
        new Run(6).readsAs(543210, "(05)(14)(23)").readsAs(543210, " ( 0 5 ) ( 1 4 ) ( 2 3 )                ");
    }

    private static void nothingTypedAfterRead() {
        Run furnished = Scenes.furnished();
        String[] faulty = {"x", "(", "()", "(00)", "(0", "(4)", "(0))", "(01)x", "(" + FORTY_SPACES.substring(1)};
        for (String text : faulty) {
            Run run = furnished.copy().types(text);
            run.ask("read");
            run.sameAs(furnished, "reading '" + text + "'");
        }
        for (String text : new String[] {"(01)", " ", FORTY_SPACES}) {
            furnished.copy().reads(5, text).types(FORTY_SPACES).due(0, "type", ' ', 1).due(6, "read")
                .due(123, "images", 6);
        }
        // Also where there is no room for the permutation.
        Run all = Scenes.allPermutations();
        for (String text : new String[] {"", "(01)", " (2 3)", FORTY_SPACES}) {
            all.copy().reads(-1000, text).sameAs(all, "reading '" + text + "' with 40 permutations");
        }
        all.copy().reads(-3, "(0").sameAs(all, "reading '(0' with 40 permutations");
    }

    private static void numbersRead() {
        Run run = new Run(4);
        for (int a = 1; a < 40; a++) {
            run.reads(a, a % 2 == 0 ? "(01)" : "").due(a % 2 == 0 ? 1023 : 123, "images", a);
        }
        run.reads(-1000, "(01)").due(-1, "images", 40);
    }

    private static void faultsRead() {
        Run run = Scenes.furnished();
        for (int p = 0; p < 40; p++) {
            run.copy().reads(-1 - p, FORTY_SPACES.substring(40 - p) + "x").sameAs(run, "a fault at " + p);
            run.copy().reads(-2 - p, FORTY_SPACES.substring(40 - p) + "(").sameAs(run, "a fault at " + (p + 1));
        }
        // With 40 permutations a fault is told as it is without.
        Run all = Scenes.allPermutations();
        all.reads(-1, "x").reads(-41, "(" + FORTY_SPACES.substring(1)).reads(-2, "()").reads(-1000, "");
    }

    private static void readWithForty() {
        Run run = Scenes.furnished().fillPermutations(39);
        run.copy().reads(39, "(01)").due(1023, "images", 39).reads(-1000, "(01)").due(-1, "images", 40);
        run.copy().reads(39, "").reads(-1000, "").reads(-1000, FORTY_SPACES);
        // A faulty text takes no place.
        run.reads(-1, ")").reads(39, "(01)").reads(-1000, "(01)");
        run.due(5, "clear").reads(1, "(01)").due(1023, "images", 1);
        Run all = Scenes.allPermutations();
        all.unchanged(-1000, "read");
    }

    // Promise 4: product

    private static void productNumbers() {
        Run run = new Run(4).due(1, "product", 0, 0).due(123, "images", 1).reads(2, "(012)");
        run.due(3, "product", 2, 0).due(1203, "images", 3).due(4, "product", 0, 2).due(1203, "images", 4);
        run.due(5, "product", 2, 2).due(2013, "images", 5).due(6, "product", 5, 2).due(123, "images", 6);
        run.fillPermutations(40).due(-1, "images", 40);
        // First a, then b, with the fewest points for which it matters.
        new Run(3).reads(1, "(01)").reads(2, "(12)").due(3, "product", 1, 2).due(201, "images", 3)
            .due(4, "product", 2, 1).due(120, "images", 4);
    }

    private static void productOfNone() {
        refusesPairs(Scenes.typed(), "product", Scenes.PERMUTATIONS, Scenes.PERMUTATIONS, -1);
        refusesPairs(Scenes.full(), "product", 40, 40, -1);
        refusesPairs(new Run(4), "product", 1, 1, -1);
        // What was there before clear is not there.
        refusesPairs(Scenes.full().due(12, "clear"), "product", 1, 1, -1);
    }

    private static void productWithForty() {
        Run run = Scenes.furnished().fillPermutations(39).types(" (2 3)");
        run.due(39, "product", 1, 38).unchanged(-1, "product", 0, 0).unchanged(-1, "product", 39, 39);
        Scenes.full().unchanged(-1, "product", 0, 0).unchanged(-1, "product", 39, 1);
    }

    /** Each of the two with the other one there, first and last, and both not there. */
    private static void refusesPairs(Run run, String call, int firstCount, int secondCount, int answer) {
        for (int wrong : Scenes.outside(firstCount)) {
            run.unchanged(answer, call, wrong, 0);
            run.unchanged(answer, call, wrong, secondCount - 1);
        }
        for (int wrong : Scenes.outside(secondCount)) {
            run.unchanged(answer, call, 0, wrong);
            run.unchanged(answer, call, firstCount - 1, wrong);
        }
        run.unchanged(answer, call, firstCount, secondCount).unchanged(answer, call, -1, -1);
        run.unchanged(answer, call, LEAST, LEAST).unchanged(answer, call, MOST, MOST);
        run.unchanged(answer, call, LEAST, MOST).unchanged(answer, call, MOST, LEAST);
    }

    private static void refusesEach(Run run, String call, int count, int answer) {
        for (int wrong : Scenes.outside(count)) {
            run.unchanged(answer, call, wrong);
        }
    }

    // Promise 5: inverse

    private static void inverseNumbers() {
        Run run = new Run(6).due(1, "inverse", 0).due(12345, "images", 1).reads(2, "(012345)");
        run.due(3, "inverse", 2).due(501234, "images", 3).due(4, "inverse", 3).due(123450, "images", 4);
        new Run(2).reads(1, "(01)").due(2, "inverse", 1).due(10, "images", 2);
    }

    private static void inverseOfNone() {
        refusesEach(Scenes.typed(), "inverse", Scenes.PERMUTATIONS, -1);
        refusesEach(Scenes.full(), "inverse", 40, -1);
        refusesEach(new Run(4), "inverse", 1, -1);
        refusesEach(Scenes.full().due(12, "clear"), "inverse", 1, -1);
    }

    private static void inverseWithForty() {
        Run run = Scenes.furnished().fillPermutations(39).types(" (2 3)");
        run.due(39, "inverse", 1).due(3012, "images", 39);
        run.unchanged(-1, "inverse", 0).unchanged(-1, "inverse", 39);
        Scenes.full().unchanged(-1, "inverse", 0).unchanged(-1, "inverse", 39);
    }

    // Promise 6: images

    private static void leastAndMostImages() {
        String[] reversals = {"", "", "(01)", "(02)", "(03)(12)", "(04)(13)", "(05)(14)(23)"};
        for (int n = 2; n <= 6; n++) {
            Run run = new Run(n).reads(1, reversals[n]);
            run.unchanged(IDENTITIES[n], "images", 0).unchanged(REVERSALS[n], "images", 1);
        }
        Scenes.full().unchanged(123, "images", 0).unchanged(1230, "images", 1);
    }

    private static void imagesOfNone() {
        refusesEach(Scenes.typed(), "images", Scenes.PERMUTATIONS, -1);
        refusesEach(Scenes.full(), "images", 40, -1);
        refusesEach(new Run(4), "images", 1, -1);
        refusesEach(Scenes.full().due(12, "clear"), "images", 1, -1);
    }

    // Promise 7: group

    private static void groupNumbers() {
        Run run = Scenes.furnished();
        for (int g = Scenes.GROUPS; g < 12; g++) {
            run.due(-1, "order", g).due(g, "group").due(1, "order", g).due(0, "contains", g, 1).due(0, "length", g);
        }
        // A place that was used before clear is without generators too.
        run = usedAndCleared().reads(1, "(01)");
        for (int g = 0; g < 12; g++) {
            run.due(g, "group").due(1, "order", g).due(0, "contains", g, 1).due(1, "orbit", g, 0)
                .due(0, "length", g).due(2, "generate", g, 1);
        }
        usedAndCleared().due(0, "group").due(1, "derived", 0).due(2, "closure", 0, 0).due(3, "hold", 0, 0)
            .due(1, "order", 1).due(1, "order", 2).due(1, "order", 3);
        usedAndCleared().reads(1, "(01)").due(0, "group").due(2, "generate", 0, 1).due(1, "closure", 0, 0)
            .due(2, "order", 1).due(2, "derived", 0).due(1, "order", 2);
    }

    /** Each place had a group with more generators than the groups that come later. */
    private static Run usedAndCleared() {
        Run run = new Run(4).reads(1, "(01)").reads(2, "(12)").reads(3, "(23)");
        for (int g = 0; g < 12; g++) {
            run.due(g, "group").due(2, "generate", g, 1).due(6, "generate", g, 2).due(24, "generate", g, 3);
        }
        return run.due(12, "clear");
    }

    private static void groupWithTwelve() {
        Run run = Scenes.typed().fillGroups(11).due(11, "group");
        run.unchanged(-1, "group");
        Scenes.full().unchanged(-1, "group");
        Scenes.full().due(-1, "group").due(-1, "group").due(12, "clear").due(0, "group");
    }

    // Promise 8: generate

    private static void generateLeastAndMost() {
        for (int n = 2; n <= 6; n++) {
            Run run = new Run(n).reads(1, "(012345".substring(0, n + 1) + ")").reads(2, "(01)").due(0, "group");
            run.unchanged(1, "generate", 0, 0).due(n, "generate", 0, 1).due(n, "generate", 0, 1);
            run.due(FACTORIALS[n], "generate", 0, 2);
            for (int a = 0; a <= 2; a++) {
                run.unchanged(FACTORIALS[n], "generate", 0, a);
            }
        }
    }

    private static void generateWhenFull() {
        Run run = Scenes.full().due(1, "order", 10).due(2, "generate", 10, 2).due(2, "order", 10).due(1, "order", 9);
        int images = run.ask("images", 39);
        int order = run.ask("generate", 9, 39);
        Checks.hold("the last permutation generates", images == 123 ? order == 1 : order > 1);
        run.due(24, "generate", 11, 1).due(24, "order", 11).due(24, "order", 0);
    }

    private static void generateOfNone() {
        refusesPairs(Scenes.typed(), "generate", Scenes.GROUPS, Scenes.PERMUTATIONS, -1);
        refusesPairs(Scenes.full(), "generate", 12, 40, -1);
        new Run(4).unchanged(-1, "generate", 0, 0).unchanged(-1, "generate", 0, 1);
        Scenes.full().due(12, "clear").unchanged(-1, "generate", 0, 0).unchanged(-1, "generate", 11, 0);
        Scenes.full().due(12, "clear").due(0, "group").unchanged(-1, "generate", 0, 1).unchanged(-1, "generate", 1, 0);
    }

    // Promise 9: order

    private static void leastAndMostOrder() {
        for (int n = 2; n <= 6; n++) {
            Run run = new Run(n).reads(1, "(012345".substring(0, n + 1) + ")").reads(2, "(01)").due(0, "group");
            run.unchanged(1, "order", 0).due(n, "generate", 0, 1).unchanged(n, "order", 0);
            run.due(FACTORIALS[n], "generate", 0, 2).unchanged(FACTORIALS[n], "order", 0);
        }
        Scenes.full().unchanged(24, "order", 0).unchanged(3, "order", 11);
    }

    private static void orderOfNone() {
        refusesEach(Scenes.typed(), "order", Scenes.GROUPS, -1);
        refusesEach(Scenes.full(), "order", 12, -1);
        refusesEach(Scenes.full().due(12, "clear"), "order", 0, -1);
        new Run(4).unchanged(-1, "order", 0);
    }

    // Promise 10: contains

    private static void containsAtTheEdges() {
        Run run = Scenes.full();
        for (int g = 0; g < 12; g++) {
            run.unchanged(1, "contains", g, 0);
        }
        for (int a = 0; a < 40; a++) {
            run.unchanged(1, "contains", 0, a);
        }
        run.unchanged(0, "contains", 2, 1).unchanged(0, "contains", 11, 1).unchanged(1, "contains", 11, 4);
    }

    private static void containsOfNone() {
        refusesPairs(Scenes.typed(), "contains", Scenes.GROUPS, Scenes.PERMUTATIONS, 0);
        refusesPairs(Scenes.full(), "contains", 12, 40, 0);
        new Run(4).unchanged(0, "contains", 0, 0);
        // The place of a group or a permutation that is gone.
        Scenes.full().due(12, "clear").unchanged(0, "contains", 0, 0);
        Scenes.full().due(12, "clear").due(0, "group").unchanged(0, "contains", 0, 1).unchanged(0, "contains", 1, 0);
    }

    // Promise 11: element

    private static void elementFirstAndLast() {
        int[] orders = {24, 2, 1, 4, 12};
        int[] last = {3210, 2301, 123, 3012, 3210};
        Run run = Scenes.furnished();
        for (int g = 0; g < Scenes.GROUPS; g++) {
            run.due(5 + 2 * g, "element", g, 0).due(123, "images", 5 + 2 * g);
            run.due(6 + 2 * g, "element", g, orders[g] - 1).due(last[g], "images", 6 + 2 * g);
        }
    }

    private static void elementOfNoGroup() {
        Run typed = Scenes.typed();
        Run full = Scenes.full();
        for (int g : Scenes.outside(Scenes.GROUPS)) {
            typed.unchanged(-1, "element", g, 0).unchanged(-1, "element", g, -1).unchanged(-1, "element", g, MOST);
        }
        for (int g : Scenes.outside(12)) {
            full.unchanged(-1, "element", g, 0);
        }
        new Run(4).unchanged(-1, "element", 0, 0);
        Scenes.full().due(12, "clear").unchanged(-1, "element", 0, 0).unchanged(-1, "element", 11, 0);
    }

    private static void noSuchElement() {
        int[] orders = {24, 2, 1, 4, 12};
        Run run = Scenes.typed();
        for (int g = 0; g < Scenes.GROUPS; g++) {
            for (int k : Scenes.outside(orders[g])) {
                run.unchanged(-1, "element", g, k);
            }
        }
        Run most = new Run(6).reads(1, "(012345)").reads(2, "(01)").due(0, "group").due(6, "generate", 0, 1);
        most.unchanged(-1, "element", 0, 6).due(720, "generate", 0, 2).unchanged(-1, "element", 0, 720);
        most.due(3, "element", 0, 719).due(543210, "images", 3);
    }

    private static void elementWithForty() {
        Run run = Scenes.furnished().fillPermutations(39).types(" (2 3)");
        run.due(39, "element", 0, 23).due(3210, "images", 39);
        run.unchanged(-1, "element", 0, 0).unchanged(-1, "element", 0, 23).unchanged(-1, "element", 0, 24);
        Scenes.full().unchanged(-1, "element", 0, 0).unchanged(-1, "element", 2, 0);
    }

    // Promise 12: least

    private static void leastAtTheEdges() {
        Run run = Scenes.furnished();
        run.due(5, "least", 2, 0).due(123, "images", 5).due(6, "least", 2, 4).due(1203, "images", 6);
        run.due(7, "least", 0, 4).due(123, "images", 7).due(8, "least", 0, 0).due(123, "images", 8);
        // Already the least, and the least by the last of the group.
        run.due(9, "least", 1, 4).due(1203, "images", 9).due(10, "least", 1, 3).due(123, "images", 10);
        new Run(2).reads(1, "(01)").due(0, "group").due(2, "least", 0, 1).due(10, "images", 2)
            .due(2, "generate", 0, 1).due(3, "least", 0, 1).due(1, "images", 3);
    }

    private static void leastOfNone() {
        refusesPairs(Scenes.typed(), "least", Scenes.GROUPS, Scenes.PERMUTATIONS, -1);
        refusesPairs(Scenes.full(), "least", 12, 40, -1);
        new Run(4).unchanged(-1, "least", 0, 0);
        Scenes.full().due(12, "clear").due(0, "group").unchanged(-1, "least", 0, 1).unchanged(-1, "least", 1, 0);
    }

    private static void leastWithForty() {
        Run run = Scenes.furnished().fillPermutations(39).types(" (2 3)");
        run.due(39, "least", 3, 1).due(123, "images", 39);
        run.unchanged(-1, "least", 0, 0).unchanged(-1, "least", 3, 39);
        Scenes.full().unchanged(-1, "least", 0, 0).unchanged(-1, "least", 11, 39);
    }

    // Promise 13: orbit

    private static void leastAndMostOrbit() {
        for (int n = 2; n <= 6; n++) {
            Run run = new Run(n).reads(1, "(012345".substring(0, n + 1) + ")").due(0, "group").due(1, "group");
            run.due(n, "generate", 1, 1);
            for (int x = 0; x < n; x++) {
                run.unchanged(1 << x, "orbit", 0, x).unchanged((1 << n) - 1, "orbit", 1, x);
            }
        }
        Scenes.full().unchanged(15, "orbit", 0, 0).unchanged(8, "orbit", 11, 3).unchanged(7, "orbit", 11, 0);
    }

    private static void orbitOfNoGroup() {
        Run typed = Scenes.typed();
        Run full = Scenes.full();
        for (int g : Scenes.outside(Scenes.GROUPS)) {
            typed.unchanged(-1, "orbit", g, 0).unchanged(-1, "orbit", g, 3).unchanged(-1, "orbit", g, 4);
        }
        for (int g : Scenes.outside(12)) {
            full.unchanged(-1, "orbit", g, 0);
        }
        new Run(4).unchanged(-1, "orbit", 0, 0);
        Scenes.full().due(12, "clear").unchanged(-1, "orbit", 0, 0);
    }

    private static void orbitOfNoPoint() {
        for (int n = 2; n <= 6; n++) {
            Run run = new Run(n).reads(1, "(01)").due(0, "group").due(2, "generate", 0, 1);
            for (int x : Scenes.outside(n)) {
                run.unchanged(-1, "orbit", 0, x);
            }
        }
        Run full = Scenes.full();
        for (int x : Scenes.outside(4)) {
            full.unchanged(-1, "orbit", 11, x);
        }
    }

    // Promise 14: hold

    private static void holdNoneAndAll() {
        for (int n = 2; n <= 6; n++) {
            Run run = new Run(n).reads(1, "(012345".substring(0, n + 1) + ")").reads(2, "(01)").due(0, "group");
            run.ask("generate", 0, 1);
            run.due(FACTORIALS[n], "generate", 0, 2);
            run.due(1, "hold", 0, 0).due(FACTORIALS[n], "order", 1).due(3, "compare", 0, 1);
            run.due(2, "hold", 0, (1 << n) - 1).due(1, "order", 2);
            run.due(3, "hold", 0, 1).due(FACTORIALS[n - 1], "order", 3).due(1, "orbit", 3, 0);
            run.due(4, "hold", 0, 1 << n - 1).due(FACTORIALS[n - 1], "order", 4).due(1 << n - 1, "orbit", 4, n - 1);
            run.due(5, "hold", 0, (1 << n) - 2).due(1, "order", 5);
        }
        // Each point by itself, not the set as a whole.
        Run run = Scenes.furnished().due(5, "hold", 0, 3).due(2, "order", 5);
        run.due(1, "orbit", 5, 0).due(2, "orbit", 5, 1).due(12, "orbit", 5, 2);
        run.due(6, "hold", 2, 15).due(1, "order", 6).due(7, "hold", 2, 0).due(1, "order", 7);
    }

    private static void holdOfNoGroup() {
        Run typed = Scenes.typed();
        for (int g : Scenes.outside(Scenes.GROUPS)) {
            typed.unchanged(-1, "hold", g, 0).unchanged(-1, "hold", g, 15).unchanged(-1, "hold", g, 16);
        }
        Run full = Scenes.full();
        for (int g : Scenes.outside(12)) {
            full.unchanged(-1, "hold", g, 0);
        }
        new Run(4).unchanged(-1, "hold", 0, 0);
        Scenes.full().due(12, "clear").unchanged(-1, "hold", 0, 0);
    }

    private static void holdOfNoSet() {
        for (int n = 2; n <= 6; n++) {
            Run run = new Run(n).reads(1, "(01)").due(0, "group").due(2, "generate", 0, 1);
            for (int points : Scenes.outside(1 << n)) {
                run.unchanged(-1, "hold", 0, points);
            }
            run.due(1, "hold", 0, (1 << n) - 1).due(2, "hold", 0, 0);
        }
        Scenes.typed().unchanged(-1, "hold", 0, 16).unchanged(-1, "hold", 0, 17).unchanged(-1, "hold", 0, 32);
    }

    private static void holdWithTwelve() {
        Run run = Scenes.typed().fillGroups(11).due(11, "hold", 0, 8).due(6, "order", 11);
        run.unchanged(-1, "hold", 0, 0).unchanged(-1, "hold", 11, 15);
        Scenes.full().unchanged(-1, "hold", 0, 0).unchanged(-1, "hold", 11, 1).unchanged(-1, "hold", 0, 16);
    }

    // Promise 15: compare

    private static void compareAtTheEdges() {
        Run run = Scenes.full();
        for (int g = 0; g < 12; g++) {
            run.unchanged(3, "compare", g, g);
        }
        // The trivial group lies in all, all lie in the whole one.
        run.unchanged(1, "compare", 2, 11).unchanged(2, "compare", 11, 2).unchanged(3, "compare", 2, 10);
        run.unchanged(1, "compare", 11, 0).unchanged(2, "compare", 0, 11).unchanged(0, "compare", 11, 8);
        run.unchanged(0, "compare", 8, 11).unchanged(3, "compare", 6, 7);
    }

    private static void compareOfNone() {
        refusesPairs(Scenes.typed(), "compare", Scenes.GROUPS, Scenes.GROUPS, -1);
        refusesPairs(Scenes.full(), "compare", 12, 12, -1);
        new Run(4).unchanged(-1, "compare", 0, 0);
        Scenes.full().due(12, "clear").due(0, "group").unchanged(-1, "compare", 0, 1).unchanged(-1, "compare", 1, 0);
    }

    // Promise 16: normal

    private static void normalAtTheEdges() {
        Run run = Scenes.full();
        for (int g = 0; g < 12; g++) {
            run.unchanged(1, "normal", g, g).unchanged(1, "normal", g, 2);
        }
        run.unchanged(0, "normal", 2, 11).unchanged(0, "normal", 0, 11).unchanged(1, "normal", 0, 4);
        run.unchanged(0, "normal", 4, 0).unchanged(1, "normal", 0, 7).unchanged(0, "normal", 0, 1);
    }

    private static void normalOfNone() {
        refusesPairs(Scenes.typed(), "normal", Scenes.GROUPS, Scenes.GROUPS, 0);
        refusesPairs(Scenes.full(), "normal", 12, 12, 0);
        new Run(4).unchanged(0, "normal", 0, 0);
        // Places of groups that are gone still must not look like groups.
        Scenes.full().due(12, "clear").unchanged(0, "normal", 0, 0);
        Scenes.full().due(12, "clear").due(0, "group").unchanged(0, "normal", 1, 0).unchanged(0, "normal", 0, 2);
    }

    // Promise 17: closure

    private static void closureNumbers() {
        Run run = Scenes.furnished().due(5, "closure", 2, 2).due(1, "order", 5).due(6, "closure", 0, 0);
        run.due(24, "order", 6).due(7, "closure", 0, 2).due(1, "order", 7).due(8, "closure", 2, 0);
        run.due(24, "order", 8).due(9, "closure", 0, 1).due(4, "order", 9).due(10, "closure", 1, 3);
        run.due(4, "order", 10).due(11, "closure", 0, 3).due(24, "order", 11);
    }

    private static void closureOfNone() {
        refusesPairs(Scenes.typed(), "closure", Scenes.GROUPS, Scenes.GROUPS, -1);
        refusesPairs(Scenes.full(), "closure", 12, 12, -1);
        new Run(4).unchanged(-1, "closure", 0, 0);
        Scenes.full().due(12, "clear").due(0, "group").unchanged(-1, "closure", 0, 1).unchanged(-1, "closure", 1, 0);
    }

    private static void closureWithTwelve() {
        Run run = Scenes.typed().fillGroups(11).due(11, "closure", 0, 1).due(4, "order", 11);
        run.unchanged(-1, "closure", 0, 1).unchanged(-1, "closure", 11, 11);
        Scenes.full().unchanged(-1, "closure", 0, 1).unchanged(-1, "closure", 11, 11);
    }

    // Promise 18: derived

    private static void derivedNumbers() {
        Run run = Scenes.furnished().due(5, "derived", 2).due(1, "order", 5).due(6, "derived", 3).due(1, "order", 6);
        run.due(7, "derived", 0).due(12, "order", 7).due(8, "derived", 7).due(4, "order", 8);
        run.due(9, "derived", 8).due(1, "order", 9).due(10, "derived", 9).due(1, "order", 10);
        // One that is its own derived group.
        run = new Run(5).reads(1, "(01234)").reads(2, "(012)").due(0, "group").due(5, "generate", 0, 1);
        run.due(60, "generate", 0, 2).due(1, "derived", 0).due(3, "compare", 0, 1);
    }

    private static void derivedOfNone() {
        refusesEach(Scenes.typed(), "derived", Scenes.GROUPS, -1);
        refusesEach(Scenes.full(), "derived", 12, -1);
        refusesEach(Scenes.full().due(12, "clear"), "derived", 0, -1);
        new Run(4).unchanged(-1, "derived", 0);
    }

    private static void derivedWithTwelve() {
        Run run = Scenes.typed().fillGroups(11).due(11, "derived", 0).due(12, "order", 11);
        run.unchanged(-1, "derived", 0).unchanged(-1, "derived", 11);
        Scenes.full().unchanged(-1, "derived", 0).unchanged(-1, "derived", 2).unchanged(-1, "derived", 11);
    }

    private static void newGroupsStandAlone() {
        Run run = Scenes.furnished().due(5, "hold", 1, 0).due(6, "closure", 1, 1).due(7, "derived", 1);
        run.due(2, "order", 5).due(2, "order", 6).due(1, "order", 7);
        // The old group grows alone, and each of the new ones too.
        run.due(12, "generate", 1, 4).due(2, "order", 5).due(2, "order", 6).due(1, "order", 7);
        run.due(4, "generate", 5, 1).due(2, "order", 6).due(3, "generate", 7, 4).due(12, "order", 1);
        run.due(4, "generate", 6, 1).due(24, "generate", 6, 4).due(3, "compare", 4, 1);
    }

    // Promise 19: length

    private static void lengthLeastAndMost() {
        Run run = Scenes.full();
        run.unchanged(0, "length", 2).unchanged(1, "length", 1).unchanged(2, "length", 5);
        run.unchanged(3, "length", 0).unchanged(1, "length", 11).unchanged(2, "length", 4);
    }

    private static void lengthNotSolvable() {
        for (int n = 5; n <= 6; n++) {
            Run run = new Run(n).reads(1, "(012)").reads(2, "(01234)").reads(3, "(01)").due(0, "group");
            run.due(3, "generate", 0, 1).due(1, "length", 0).due(60, "generate", 0, 2).unchanged(-1, "length", 0);
            run.due(120, "generate", 0, 3).unchanged(-1, "length", 0);
        }
        Run run = new Run(6).reads(1, "(012345)").reads(2, "(01)").due(0, "group").due(6, "generate", 0, 1);
        run.unchanged(1, "length", 0).due(720, "generate", 0, 2).unchanged(-1, "length", 0);
    }

    private static void lengthOfNone() {
        refusesEach(Scenes.typed(), "length", Scenes.GROUPS, -1);
        refusesEach(Scenes.full(), "length", 12, -1);
        refusesEach(Scenes.full().due(12, "clear"), "length", 0, -1);
        new Run(4).unchanged(-1, "length", 0);
    }

    // Promise 20: clear

    private static void clearGroups() {
        Run run = Scenes.full().due(12, "clear");
        for (int g = 0; g < 12; g++) {
            run.due(-1, "order", g);
        }
        run.due(0, "group").due(1, "order", 0).due(-1, "order", 1).fillGroups(12).due(-1, "group");
        Scenes.furnish(usedAndCleared()).sameAs(Scenes.furnished(), "making all again after clear");
    }

    private static void clearPermutations() {
        Run run = Scenes.full().due(12, "clear").due(123, "images", 0);
        for (int a = 1; a < 40; a++) {
            run.due(-1, "images", a);
        }
        run.reads(1, "(01)").due(1023, "images", 1).due(-1, "images", 2);
        run.fillPermutations(40).due(-1, "product", 0, 0);
    }

    private static void clearText() {
        Scenes.typed().due(5, "clear").due(1, "read").due(123, "images", 1);
        new Run(4).types("(" + FORTY_SPACES.substring(1)).due(0, "clear").types(FORTY_SPACES).due(0, "type", ' ', 1)
            .due(1, "read");
        // After clear nothing is left of what was there, and N is as it was.
        Scenes.full().due(12, "clear").sameAs(new Run(4), "clear");
        for (int n = 2; n <= 6; n++) {
            Run used = new Run(n).reads(1, "(01)").due(0, "group").due(2, "generate", 0, 1).types("(0");
            used.due(1, "clear").sameAs(new Run(n), "clear");
        }
    }

    private static void clearCounts() {
        new Run(4).unchanged(0, "clear");
        Run run = new Run(4).due(0, "clear").due(0, "group").due(1, "clear").due(0, "clear");
        for (int count = 1; count <= 12; count++) {
            run.fillGroups(count).due(count, "clear").due(0, "clear");
        }
        run.fillGroups(12).due(-1, "group").due(12, "clear").due(0, "clear");
    }
}
