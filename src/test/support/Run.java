import java.util.ArrayList;
import java.util.Arrays;
import java.util.List;

/**
 * A run of calls on one object, kept so that it can be made again on another one: what a call changed is seen by
 * asking two objects all that can be asked, one that had the call and one that had not. A boolean counts 1 or 0.
 */
final class Run {
    static final int MOST_CALLS = 512;
    static final int MOST_PERMUTATIONS = 40;
    static final int MOST_GROUPS = 12;
    static final int MOST_CHARACTERS = 40;

    private static final Look[] LOOKS = Look.values();

    final int n;
    private final List<Step> steps = new ArrayList<>();
    private final MotionGroups object;
    /** Looks at the same state are taken only once; a further step makes them old. */
    private List<List<Integer>> looks;
    private int looksAfter = -1;

    private record Step(String call, int x, int y) {
    }

    Run(int n) {
        this.n = n;
        object = new MotionGroups(n);
    }

    Run copy() {
        Run other = new Run(n);
        for (Step step : steps) {
            other.steps.add(step);
            answer(other.object, step);
        }
        other.looks = looks;
        other.looksAfter = looksAfter;
        return other;
    }

    int ask(String call, int... args) {
        Step step = step(call, args);
        steps.add(step);
        Checks.hold("a test of more than 512 calls asks for nothing", steps.size() <= MOST_CALLS);
        return answer(object, step);
    }

    Run due(int want, String call, int... args) {
        Checks.due(told(call, args), ask(call, args), want);
        return this;
    }

    /** The answer is as due, and all is as if there had been no such call; the run itself goes on without it. */
    Run unchanged(int want, String call, int... args) {
        looks();
        copy().due(want, call, args).sameAs(this, told(call, args));
        return this;
    }

    /** All is as in the other run. */
    Run sameAs(Run other, String when) {
        List<List<Integer>> now = looks();
        List<List<Integer>> due = other.looks();
        Checks.hold(when + " left another state", now.equals(due));
        for (int i = 0; i < LOOKS.length; i++) {
            if (!now.get(i).equals(due.get(i))) {
                System.out.println(LOOKS[i] + ": " + now.get(i) + ", due is " + due.get(i));
            }
        }
        return this;
    }

    Run types(String text) {
        for (int from = 0; from < text.length(); from += 4) {
            String part = text.substring(from, Math.min(text.length(), from + 4));
            due(1, "type", word(part), part.length());
        }
        return this;
    }

    Run reads(int want, String text) {
        types(text);
        Checks.due("read() of '" + text + "'", ask("read"), want);
        return this;
    }

    /** The text is one permutation more, with these images. */
    Run readsAs(int images, String text) {
        types(text);
        int number = ask("read");
        Checks.hold("read() of '" + text + "' answered " + number, number >= 0);
        Checks.due("images of '" + text + "'", ask("images", number), images);
        return this;
    }

    int permutation(String text) {
        types(text);
        return ask("read");
    }

    int groupOf(String... generators) {
        int g = ask("group");
        for (String text : generators) {
            ask("generate", g, permutation(text));
        }
        return g;
    }

    Run fillPermutations(int upTo) {
        int last = ask("product", 0, 0);
        for (int i = 0; i < MOST_PERMUTATIONS && last < upTo - 1; i++) {
            last = ask("product", last, last / 2);
        }
        Checks.due("the last of " + upTo + " permutations", last, upTo - 1);
        return this;
    }

    Run fillGroups(int upTo) {
        int last = ask("group");
        for (int i = 0; i < MOST_GROUPS && last < upTo - 1; i++) {
            last = ask("group");
        }
        Checks.due("the last of " + upTo + " groups", last, upTo - 1);
        return this;
    }

    static int word(String text) {
        int word = 0;
        for (int i = 0; i < text.length(); i++) {
            word = word << 8 | text.charAt(i);
        }
        return word;
    }

    private static String told(String call, int... args) {
        return call + Arrays.toString(args).replace('[', '(').replace(']', ')');
    }

    private static Step step(String call, int... args) {
        return new Step(call, args.length > 0 ? args[0] : 0, args.length > 1 ? args[1] : 0);
    }

    private static int answer(MotionGroups m, Step step) {
        int x = step.x;
        int y = step.y;
        return switch (step.call) {
            case "type" -> m.type(x, y) ? 1 : 0;
            case "read" -> m.read();
            case "product" -> m.product(x, y);
            case "inverse" -> m.inverse(x);
            case "images" -> m.images(x);
            case "group" -> m.group();
            case "generate" -> m.generate(x, y);
            case "order" -> m.order(x);
            case "contains" -> m.contains(x, y) ? 1 : 0;
            case "element" -> m.element(x, y);
            case "least" -> m.least(x, y);
            case "orbit" -> m.orbit(x, y);
            case "hold" -> m.hold(x, y);
            case "compare" -> m.compare(x, y);
            case "normal" -> m.normal(x, y) ? 1 : 0;
            case "closure" -> m.closure(x, y);
            case "derived" -> m.derived(x);
            case "length" -> m.length(x);
            case "clear" -> m.clear();
            default -> throw new IllegalArgumentException(step.call);
        };
    }

    private List<List<Integer>> looks() {
        if (looksAfter != steps.size()) {
            looks = new ArrayList<>();
            for (Look look : LOOKS) {
                looks.add(taken(look));
            }
            looksAfter = steps.size();
        }
        return looks;
    }

    /** Each look is at an object of its own, since many questions change what they ask about. */
    private List<Integer> taken(Look look) {
        Watch watch = new Watch(copy().object);
        look.through(watch);
        Checks.hold("a look of more than 512 calls sees nothing", steps.size() + watch.seen.size() <= MOST_CALLS);
        return watch.seen;
    }

    private static final class Watch {
        final List<Integer> seen = new ArrayList<>();
        private final MotionGroups object;

        Watch(MotionGroups object) {
            this.object = object;
        }

        int ask(String call, int... args) {
            int answer = answer(object, step(call, args));
            seen.add(answer);
            return answer;
        }
    }

    private enum Look {
        TEXT {
            void through(Watch watch) {
                for (int i = 0; i < 2; i++) {
                    watch.ask("images", watch.ask("read"));
                }
            }
        },
        ROOM_FOR_TEXT {
            void through(Watch watch) {
                for (int i = 0; i <= MOST_CHARACTERS; i++) {
                    watch.ask("type", ' ', 1);
                }
            }
        },
        LENGTH_OF_TEXT {
            void through(Watch watch) {
                watch.ask("type", '~', 1);
                watch.ask("read");
            }
        },
        POINT_0_IN_TEXT {
            void through(Watch watch) {
                pointInText(watch, '0');
            }
        },
        POINT_1_IN_TEXT {
            void through(Watch watch) {
                pointInText(watch, '1');
            }
        },
        POINT_2_IN_TEXT {
            void through(Watch watch) {
                pointInText(watch, '2');
            }
        },
        POINT_3_IN_TEXT {
            void through(Watch watch) {
                pointInText(watch, '3');
            }
        },
        PERMUTATIONS {
            void through(Watch watch) {
                for (int a = -1; a <= MOST_PERMUTATIONS; a++) {
                    watch.ask("images", a);
                }
            }
        },
        ORDERS_AND_ORBITS {
            void through(Watch watch) {
                for (int g = -1; g <= MOST_GROUPS; g++) {
                    watch.ask("order", g);
                    for (int x = 0; x < 6; x++) {
                        watch.ask("orbit", g, x);
                    }
                }
            }
        },
        ELEMENTS_OF_FIRST_GROUPS {
            void through(Watch watch) {
                members(watch, 0, MOST_GROUPS / 2);
            }
        },
        ELEMENTS_OF_LAST_GROUPS {
            void through(Watch watch) {
                members(watch, MOST_GROUPS / 2, MOST_GROUPS);
            }
        },
        GROUPS_IN_GROUPS {
            void through(Watch watch) {
                for (int g = 0; g < MOST_GROUPS; g++) {
                    for (int h = 0; h < MOST_GROUPS; h++) {
                        watch.ask("compare", g, h);
                    }
                }
            }
        },
        NORMAL_GROUPS {
            void through(Watch watch) {
                for (int g = 0; g < MOST_GROUPS; g++) {
                    watch.ask("length", g);
                    for (int h = 0; h < MOST_GROUPS; h++) {
                        watch.ask("normal", g, h);
                    }
                }
            }
        },
        NEXT_PERMUTATIONS {
            void through(Watch watch) {
                watch.ask("images", watch.ask("product", 1, 2));
                watch.ask("images", watch.ask("inverse", 1));
                watch.ask("images", watch.ask("element", 0, 0));
            }
        },
        NEXT_GROUPS {
            void through(Watch watch) {
                watch.ask("order", watch.ask("derived", 0));
                watch.ask("order", watch.ask("closure", 0, 1));
                int fresh = watch.ask("group");
                watch.ask("order", fresh);
                watch.ask("generate", fresh, 1);
            }
        },
        WHAT_IS_CLEARED {
            void through(Watch watch) {
                watch.ask("clear");
                watch.ask("images", watch.ask("read"));
                watch.ask("order", watch.ask("group"));
            }
        };

        abstract void through(Watch watch);

        /** A point that stood before is a fault where it stands again, another one is none. */
        private static void pointInText(Watch watch, char point) {
            watch.ask("type", '(' << 8 | point, 2);
            watch.ask("read");
        }

        private static void members(Watch watch, int from, int to) {
            for (int g = from; g < to; g++) {
                for (int a = 0; a < MOST_PERMUTATIONS; a++) {
                    watch.ask("contains", g, a);
                }
            }
        }
    }
}
