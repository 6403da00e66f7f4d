/** For each promise of the document: ordinary inputs, the edges that it names, and wrong inputs. */
public final class PromiseTests {
    private static int wrong = 0;

    public static void main(String[] args) {
        aNewObject();
        typing();
        typingIsRefusedWhole();
        readingCycles();
        readingFaults();
        readingWithoutRoom();
        products();
        inverses();
        imagesOfPermutations();
        newGroups();
        generating();
        orders();
        containing();
        elements();
        leastOfCosets();
        orbits();
        holding();
        comparing();
        normality();
        closures();
        derivedGroups();
        derivedLengths();
        clearing();
        System.out.println(wrong == 0 ? "all promises hold" : wrong + " answers are not as due");
        if (wrong != 0) {
            System.exit(1);
        }
    }

    private static void due(String call, long got, long want) {
        if (got != want) {
            wrong++;
            System.out.println(call + " answered " + got + ", due is " + want);
        }
    }

    private static void due(String call, boolean got, boolean want) {
        due(call, got ? 1L : 0L, want ? 1L : 0L);
    }

    private static void typeAll(MotionGroups m, String text) {
        for (int i = 0; i < text.length(); i++) {
            due("type '" + text + "' at " + i, m.type(text.charAt(i), 1), true);
        }
    }

    private static int readText(MotionGroups m, String text) {
        typeAll(m, text);
        return m.read();
    }

    private static int groupOf(MotionGroups m, String... generators) {
        int g = m.group();
        for (String text : generators) {
            m.generate(g, readText(m, text));
        }
        return g;
    }

    private static void fillPermutations(MotionGroups m) {
        for (int i = 0; i < 40; i++) {
            m.product(0, 0);
        }
        due("the last of 40 permutations", m.images(39) >= 0, true);
        due("a 41st permutation", m.images(40), -1);
    }

    private static void fillGroups(MotionGroups m) {
        for (int i = 0; i < 12; i++) {
            m.group();
        }
        due("the last of 12 groups", m.order(11) >= 1, true);
        due("a 13th group", m.order(12), -1);
    }

    // Promise 1
    private static void aNewObject() {
        int[] sizes = {2, 3, 4, 5, 6, 1, 7, 0, -1, Integer.MIN_VALUE, Integer.MAX_VALUE};
        int[] identities = {1, 12, 123, 1234, 12345, 123, 123, 123, 123, 123, 123};
        for (int i = 0; i < sizes.length; i++) {
            MotionGroups m = new MotionGroups(sizes[i]);
            due("the identity of a new object of " + sizes[i], m.images(0), identities[i]);
            due("a second permutation of a new object", m.images(1), -1);
            due("a group of a new object", m.order(0), -1);
            due("reading a new object", m.read(), 1);
            due("what was read", m.images(1), identities[i]);
        }
    }

    // Promise 2
    private static void typing() {
        MotionGroups m = new MotionGroups(4);
        due("type (0 1", m.type(0x28302031, 4), true);
        due("type of 3 bytes, the highest left out", m.type(0x00322029, 3), true);
        due("type of 2 bytes", m.type(0x2020, 2), true);
        due("read", m.read(), 1);
        due("images of (0 12 )", m.images(1), 1203);
        due("bytes above the lowest n do not count", m.type(0xFF0000FF << 8 | 0x28, 1), true);
        due("read an open bracket", m.read(), -2);
        due("the lowest character", m.type(32, 1), true);
        due("the highest character", m.type(126, 1), true);
        due("read ' ~'", m.read(), -2);
    }

    private static void typingIsRefusedWhole() {
        MotionGroups m = new MotionGroups(4);
        due("n 0", m.type(0x28302931, 0), false);
        due("n 5", m.type(0x28302931, 5), false);
        due("n -1", m.type(0x28302931, -1), false);
        due("n least", m.type(0x28302931, Integer.MIN_VALUE), false);
        due("n most", m.type(0x28302931, Integer.MAX_VALUE), false);
        due("31", m.type(31, 1), false);
        due("127", m.type(127, 1), false);
        due("128 and above", m.type(0x283020F1, 4), false);
        due("a zero byte first", m.type(0x00302029, 4), false);
        due("a wrong byte last", m.type(0x2830201F, 4), false);
        due("nothing was typed", m.read(), 1);
        for (int i = 0; i < 9; i++) {
            due("4 spaces", m.type(0x20202020, 4), true);
        }
        due("2 spaces to 38", m.type(0x2020, 2), true);
        due("3 more than there is room for", m.type(0x202020, 3), false);
        due("1 to 39", m.type(0x20, 1), true);
        due("2 more than there is room for", m.type(0x2020, 2), false);
        due("the 40th", m.type('(', 1), true);
        due("the 41st", m.type(' ', 1), false);
        due("a text of 40 that ends early", m.read(), -41);
        due("there is room again", m.type(' ', 1), true);
    }

    // Promise 3
    private static void readingCycles() {
        MotionGroups m = new MotionGroups(6);
        due("no text", m.read(), 1);
        due("spaces only", readText(m, "   "), 2);
        due("one bracket", readText(m, "(0 1 2)"), 3);
        due("no spaces", readText(m, "(012)(345)"), 4);
        due("many spaces", readText(m, "  (  5   0 ) ( 3 )  (4 1)  "), 5);
        due("fixed points", readText(m, "(0)(1)(2)(3)(4)(5)"), 6);
        due("all points", readText(m, "(543210)"), 7);
        due("images 1", m.images(1), 12345);
        due("images 2", m.images(2), 12345);
        due("images 3", m.images(3), 120345);
        due("images 4", m.images(4), 120453);
        due("images 5", m.images(5), 542310);
        due("images 6", m.images(6), 12345);
        due("images 7", m.images(7), 501234);
        due("what was read is no longer typed", m.read(), 8);
        due("images 8", m.images(8), 12345);
    }

    private static void readingFaults() {
        MotionGroups m = new MotionGroups(3);
        due("an empty bracket", readText(m, "()"), -2);
        due("an empty bracket with spaces", readText(m, "(0) (  )"), -8);
        due("a point that is N", readText(m, "(0 3)"), -4);
        due("a letter", readText(m, "(0 a)"), -4);
        due("below the digits", readText(m, "(0/)"), -3);
        due("a point twice in a bracket", readText(m, "(0 1 0)"), -6);
        due("a point twice in two brackets", readText(m, "(0 1)(1 2)"), -7);
        due("a point twice when all are used", readText(m, "(0 1 2)(0)"), -9);
        due("an empty bracket when all are used", readText(m, "(0 1 2)()"), -9);
        due("an end in a bracket when all are used", readText(m, "(0 1 2)("), -9);
        due("a point outside", readText(m, "0"), -1);
        due("a closing bracket outside", readText(m, " )"), -2);
        due("two closing brackets", readText(m, "(0 1))"), -6);
        due("two opening brackets", readText(m, "((0 1)"), -2);
        due("a bracket in a bracket", readText(m, "(0(1))"), -3);
        due("the end in a bracket", readText(m, "(0 1"), -5);
        due("the end in an empty bracket", readText(m, "("), -2);
        due("the end behind spaces in a bracket", readText(m, "(0  "), -5);
        due("the first of two faults", readText(m, "(0 x) )"), -4);
        due("no permutation came of all that", m.images(1), -1);
        due("a faulty text is gone too", m.read(), 1);
    }

    private static void readingWithoutRoom() {
        MotionGroups m = new MotionGroups(4);
        fillPermutations(m);
        due("a good text without room", readText(m, "(0 1)"), -1000);
        due("no text without room", m.read(), -1000);
        due("a faulty text without room", readText(m, "(0 1"), -5);
        typeAll(m, "                                     ");
        due("no room", m.read(), -1000);
        due("nothing is typed then in any case", m.type(0x20202020, 4), true);
        due("still 40", m.images(40), -1);
    }

    // Promise 4
    private static void products() {
        MotionGroups m = new MotionGroups(4);
        int a = readText(m, "(0 1 2 3)");
        int b = readText(m, "(0 1)");
        due("a * b", m.product(a, b), 3);
        due("b * a", m.product(b, a), 4);
        due("first a, then b", m.images(3), 231);
        due("first b, then a", m.images(4), 2130);
        due("a * a", m.product(a, a), 5);
        due("images of a * a", m.images(5), 2301);
        due("a is as it was", m.images(a), 1230);
        due("first not there", m.product(6, 0), -1);
        due("second not there", m.product(0, 6), -1);
        due("first negative", m.product(-1, 0), -1);
        due("second negative", m.product(0, Integer.MIN_VALUE), -1);
        due("a refused one takes no number", m.images(6), -1);
        fillPermutations(m);
        due("no room", m.product(0, 0), -1);
    }

    // Promise 5
    private static void inverses() {
        MotionGroups m = new MotionGroups(6);
        int a = readText(m, "(0 3 1)(2 5)");
        due("inverse", m.inverse(a), 2);
        due("images of the inverse", m.images(2), 135042);
        due("of the identity", m.inverse(0), 3);
        due("images of the identity's", m.images(3), 12345);
        due("not there", m.inverse(4), -1);
        due("negative", m.inverse(-1), -1);
        due("a refused one takes no number", m.images(4), -1);
        fillPermutations(m);
        due("no room", m.inverse(0), -1);
    }

    // Promise 6
    private static void imagesOfPermutations() {
        MotionGroups m = new MotionGroups(5);
        int a = readText(m, "(0 4 2)");
        due("images", m.images(a), 41032);
        due("not there", m.images(2), -1);
        due("negative", m.images(-1), -1);
        due("least", m.images(Integer.MIN_VALUE), -1);
        due("most", m.images(Integer.MAX_VALUE), -1);
    }

    // Promise 7
    private static void newGroups() {
        MotionGroups m = new MotionGroups(4);
        for (int g = 0; g < 12; g++) {
            due("group", m.group(), g);
            due("its order", m.order(g), 1);
        }
        due("a 13th group", m.group(), -1);
        due("the 13th is not there", m.order(12), -1);
    }

    // Promise 8
    private static void generating() {
        MotionGroups m = new MotionGroups(5);
        int g = m.group();
        int h = m.group();
        int cycle = readText(m, "(0 1 2 3 4)");
        int turn = readText(m, "(1 4)(2 3)");
        int swap = readText(m, "(0 1)");
        due("the identity", m.generate(g, 0), 1);
        due("a cycle", m.generate(g, cycle), 5);
        due("the cycle again", m.generate(g, cycle), 5);
        due("a turn", m.generate(g, turn), 10);
        due("a swap", m.generate(g, swap), 120);
        due("the other group", m.order(h), 1);
        due("group not there", m.generate(2, cycle), -1);
        due("group negative", m.generate(-1, cycle), -1);
        due("permutation not there", m.generate(h, 4), -1);
        due("permutation negative", m.generate(h, -1), -1);
        due("the other group is still trivial", m.order(h), 1);
    }

    // Promise 9
    private static void orders() {
        MotionGroups m = new MotionGroups(6);
        due("S6", m.order(groupOf(m, "(012345)", "(01)")), 720);
        due("A6", m.order(groupOf(m, "(012)", "(12345)")), 360);
        due("PGL(2,5)", m.order(groupOf(m, "(01234)", "(1243)", "(05)(14)")), 120);
        due("wreath product", m.order(groupOf(m, "(012)", "(01)", "(03)(14)(25)")), 72);
        due("elementary abelian", m.order(groupOf(m, "(01)", "(23)", "(45)")), 8);
        due("none", m.order(5), -1);
        due("negative", m.order(-1), -1);
        due("most", m.order(Integer.MAX_VALUE), -1);
    }

    // Promise 10
    private static void containing() {
        MotionGroups m = new MotionGroups(4);
        int g = groupOf(m, "(0 1 2 3)", "(0 2)");
        int inside = readText(m, "(0 1)(2 3)");
        int outside = readText(m, "(0 1)");
        due("the identity", m.contains(g, 0), true);
        due("inside", m.contains(g, inside), true);
        due("outside", m.contains(g, outside), false);
        due("no group", m.contains(1, 0), false);
        due("negative group", m.contains(-1, 0), false);
        due("no permutation", m.contains(g, 5), false);
        due("negative permutation", m.contains(g, -1), false);
    }

    // Promise 11
    private static void elements() {
        MotionGroups m = new MotionGroups(4);
        int g = groupOf(m, "(0 1 2 3)", "(0 2)");
        int[] due = {123, 321, 1032, 1230, 2103, 2301, 3012, 3210};
        for (int k = 0; k < due.length; k++) {
            due("element " + k, m.element(g, k), 3 + k);
            due("images of element " + k, m.images(3 + k), due[k]);
        }
        due("element 8", m.element(g, 8), -1);
        due("element -1", m.element(g, -1), -1);
        due("element most", m.element(g, Integer.MAX_VALUE), -1);
        due("no group", m.element(1, 0), -1);
        due("negative group", m.element(-1, 0), -1);
        due("a refused one takes no number", m.images(11), -1);
        fillPermutations(m);
        due("no room", m.element(g, 0), -1);
    }

    // Promise 12
    private static void leastOfCosets() {
        MotionGroups m = new MotionGroups(4);
        int g = groupOf(m, "(0 1 2)");
        int a = readText(m, "(0 3)");
        due("least", m.least(g, a), 3);
        due("a first, then the group", m.images(3), 3012);
        due("of the identity", m.least(g, 0), 4);
        due("images of that", m.images(4), 123);
        int trivial = m.group();
        due("of itself alone", m.least(trivial, a), 5);
        due("itself", m.images(5), 3120);
        due("no group", m.least(2, 0), -1);
        due("negative group", m.least(-1, 0), -1);
        due("no permutation", m.least(g, 6), -1);
        due("negative permutation", m.least(g, -1), -1);
        due("a refused one takes no number", m.images(6), -1);
        fillPermutations(m);
        due("no room", m.least(g, 0), -1);
    }

    // Promise 13
    private static void orbits() {
        MotionGroups m = new MotionGroups(6);
        int g = groupOf(m, "(0 2)", "(2 5)", "(1 3)");
        int[] due = {37, 10, 37, 10, 16, 37};
        for (int x = 0; x < 6; x++) {
            due("orbit of " + x, m.orbit(g, x), due[x]);
        }
        due("point 6", m.orbit(g, 6), -1);
        due("point -1", m.orbit(g, -1), -1);
        due("no group", m.orbit(1, 0), -1);
        due("negative group", m.orbit(-1, 0), -1);
    }

    // Promise 14
    private static void holding() {
        MotionGroups m = new MotionGroups(4);
        int g = groupOf(m, "(0 1 2 3)", "(0 1)");
        due("no point held", m.hold(g, 0), 1);
        due("as the whole group", m.compare(g, 1), 3);
        due("one point held", m.hold(g, 4), 2);
        due("order with one held", m.order(2), 6);
        due("orbit of the held one", m.orbit(2, 2), 4);
        due("orbit of another", m.orbit(2, 0), 11);
        due("two points held, each by itself", m.hold(g, 3), 3);
        due("order with two held", m.order(3), 2);
        due("all held", m.hold(g, 15), 4);
        due("order with all held", m.order(4), 1);
        due("too many points", m.hold(g, 16), -1);
        due("a negative set", m.hold(g, -1), -1);
        due("least set", m.hold(g, Integer.MIN_VALUE), -1);
        due("no group", m.hold(5, 0), -1);
        due("negative group", m.hold(-1, 0), -1);
        due("a refused one takes no number", m.order(5), -1);
        due("more generators for the new group", m.generate(3, readText(m, "(0 1)")), 4);
        due("leave the old one as it was", m.order(g), 24);
        fillGroups(m);
        due("no room", m.hold(g, 0), -1);
    }

    // Promise 15
    private static void comparing() {
        MotionGroups m = new MotionGroups(4);
        int whole = groupOf(m, "(0 1 2 3)", "(0 1)");
        int again = groupOf(m, "(0 1)", "(1 2)", "(2 3)");
        int part = groupOf(m, "(0 1 2)");
        int other = groupOf(m, "(0 1)");
        due("the same elements", m.compare(whole, again), 3);
        due("with itself", m.compare(part, part), 3);
        due("in", m.compare(part, whole), 1);
        due("round", m.compare(whole, part), 2);
        due("apart", m.compare(part, other), 0);
        due("first not there", m.compare(4, 0), -1);
        due("second not there", m.compare(0, 4), -1);
        due("first negative", m.compare(-1, 0), -1);
        due("second negative", m.compare(0, -1), -1);
    }

    // Promise 16
    private static void normality() {
        MotionGroups m = new MotionGroups(4);
        int whole = groupOf(m, "(0 1 2 3)", "(0 1)");
        int four = groupOf(m, "(0 1)(2 3)", "(0 2)(1 3)");
        int two = groupOf(m, "(0 1)(2 3)");
        int swaps = groupOf(m, "(2 3)");
        int trivial = m.group();
        due("four in the whole", m.normal(whole, four), true);
        due("two in four", m.normal(four, two), true);
        due("two in the whole", m.normal(whole, two), false);
        due("in itself", m.normal(swaps, swaps), true);
        due("the trivial group", m.normal(swaps, trivial), true);
        due("kept, but not inside", m.normal(two, swaps), false);
        due("the whole in a part", m.normal(four, whole), false);
        due("first not there", m.normal(5, 0), false);
        due("second not there", m.normal(0, 5), false);
        due("first negative", m.normal(-1, 0), false);
        due("second negative", m.normal(0, -1), false);
    }

    // Promise 17
    private static void closures() {
        MotionGroups m = new MotionGroups(4);
        int whole = groupOf(m, "(0 1 2 3)", "(0 1)");
        int two = groupOf(m, "(0 1)(2 3)");
        int turn = groupOf(m, "(0 1 2)");
        int swap = groupOf(m, "(2 3)");
        due("closure in the whole", m.closure(whole, two), 4);
        due("its order", m.order(4), 4);
        due("in itself", m.closure(two, two), 5);
        due("the same", m.compare(5, two), 3);
        due("of a group that does not lie inside", m.closure(turn, swap), 6);
        due("its order", m.order(6), 24);
        due("of a group that is kept from outside", m.closure(two, swap), 7);
        due("the same", m.compare(7, swap), 3);
        due("the old one is as it was", m.order(two), 2);
        due("first not there", m.closure(8, 0), -1);
        due("second not there", m.closure(0, 8), -1);
        due("first negative", m.closure(-1, 0), -1);
        due("second negative", m.closure(0, -1), -1);
        due("a refused one takes no number", m.order(8), -1);
        fillGroups(m);
        due("no room", m.closure(0, 1), -1);
    }

    // Promise 18
    private static void derivedGroups() {
        MotionGroups m = new MotionGroups(6);
        int[] orders = {360, 360, 18, 1, 1, 1};
        groupOf(m, "(012345)", "(01)");
        groupOf(m, "(012)", "(12345)");
        groupOf(m, "(012)", "(01)", "(03)(14)(25)");
        groupOf(m, "(01)", "(23)", "(45)");
        groupOf(m, "(012345)");
        m.group();
        for (int g = 0; g < 6; g++) {
            due("derived of " + g, m.derived(g), 6 + g);
            due("its order", m.order(6 + g), orders[g]);
        }
        due("no room", m.derived(0), -1);
        m.clear();
        due("none", m.derived(0), -1);
        due("negative", m.derived(-1), -1);
        due("a refused one takes no number", m.group(), 0);
    }

    // Promise 19
    private static void derivedLengths() {
        MotionGroups m = new MotionGroups(6);
        due("S6", m.length(groupOf(m, "(012345)", "(01)")), -1);
        due("A5", m.length(groupOf(m, "(012)", "(01234)")), -1);
        due("S4", m.length(groupOf(m, "(0123)", "(01)")), 3);
        due("S3 wr C2", m.length(groupOf(m, "(012)", "(01)", "(03)(14)(25)")), 3);
        due("C2 wr S3", m.length(groupOf(m, "(01)", "(02)(13)", "(024)(135)")), 3);
        due("S3", m.length(groupOf(m, "(012)", "(01)")), 2);
        due("C6", m.length(groupOf(m, "(012345)")), 1);
        due("trivial", m.length(m.group()), 0);
        due("none", m.length(8), -1);
        due("negative", m.length(-1), -1);
        due("no new group", m.group(), 8);
        due("the group is as it was", m.order(2), 24);
    }

    // Promise 20
    private static void clearing() {
        MotionGroups m = new MotionGroups(5);
        due("no groups", m.clear(), 0);
        groupOf(m, "(0 1 2 3 4)", "(0 1)");
        groupOf(m, "(0 1)");
        typeAll(m, "(0");
        due("two groups", m.clear(), 2);
        due("no groups any more", m.clear(), 0);
        due("no permutation", m.images(1), -1);
        due("the identity", m.images(0), 1234);
        due("no group", m.order(0), -1);
        due("nothing typed", m.read(), 1);
        due("groups from 0 again", m.group(), 0);
        due("a new group without generators", m.order(0), 1);
        due("the points are as before", m.orbit(0, 4), 16);
    }
}
