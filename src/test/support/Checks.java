/** Counts the answers that are not as due, each told with the sentence of the document that asks for it. */
final class Checks {
    private static String sentence = "";
    private static int wrong = 0;
    private static int made = 0;

    private Checks() {
    }

    static void sentence(String words, Runnable test) {
        sentence = words;
        int before = made;
        test.run();
        if (made == before) {
            tell("the test checks nothing");
        }
    }

    static void due(String what, long got, long want) {
        made++;
        if (got != want) {
            tell(what + " answered " + got + ", due is " + want);
        }
    }

    static void hold(String what, boolean holds) {
        made++;
        if (!holds) {
            tell(what);
        }
    }

    private static void tell(String fault) {
        wrong++;
        System.out.println("[" + sentence + "] " + fault);
    }

    static void end() {
        System.out.println(wrong == 0 ? made + " checks hold" : wrong + " of " + made + " checks do not hold");
        if (wrong != 0) {
            System.exit(1);
        }
    }
}
