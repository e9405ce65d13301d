/** Runs of 512 calls, the same each time, answered by the book as by the plain one. */
public final class LongRunsTest {
    /** The same numbers for the same start: a run that fails can be run again. */
    private static final class Steps {
        private long state;

        Steps(int start) {
            state = start;
        }

        int below(int bound) {
            state = state * 6364136223846793005L + 1442695040888963407L;
            return (int) ((state >>> 33) % bound);
        }
    }

    private static final String[] CALLS = {
        "pigment", "tube", "pot", "squeeze", "squeeze", "squeeze", "pour", "pour", "scrape",
        "picture", "paint", "paint", "paint", "paint", "clean", "damp", "lend", "lend", "sell",
        "sell", "pass", "pass", "left", "has", "colour", "of", "of", "of", "layer", "where",
        "recipe", "paid",
    };
    private static final int[] EDGES = {
        Integer.MIN_VALUE, -2, -1, 0, 1, 2, 3, 4, 9, 10, 12, 13, 50, 100, 101, 255, 256, 1000,
        1001, 12000, 12001, 100000, 100001, Integer.MAX_VALUE,
    };

    public static void main(String[] args) {
        for (int run = 0; run < 1500; run++) {
            longRun(new Steps(run), run);
        }
        Checks.end("LongRunsTest");
    }

    private static void longRun(Steps steps, int run) {
        AtelierBook book = new AtelierBook();
        PlainBook plain = new PlainBook();
        int crowd = 1 + steps.below(12);
        int edges = 8 + steps.below(80);
        for (int call = 0; call < 512; call++) {
            String name = CALLS[steps.below(CALLS.length)];
            int[] args = new int[3];
            for (int i = 0; i < 3; i++) {
                args[i] = steps.below(edges) == 0
                        ? EDGES[steps.below(EDGES.length)]
                        : ordinary(name, i, steps, crowd);
            }
            String due = plain.call(name, args[0], args[1], args[2]);
            String got = Calls.answer(book, name, args[0], args[1], args[2]);
            Checks.same("run " + run + ", call " + call + ": " + name + " " + args[0] + " "
                    + args[1] + " " + args[2], due, got);
        }
    }

    /** An argument that is mostly in range: small numbers of things, and amounts by the call. */
    private static int ordinary(String name, int index, Steps steps, int crowd) {
        switch (name + index) {
            case "pigment0": case "pigment1": case "pigment2":
            case "recipe0": case "recipe1": case "recipe2":
                return steps.below(256);
            case "tube1":
                return 1 + steps.below(1000);
            case "squeeze2": case "pour2": case "paint2":
                return 1 + steps.below(steps.below(2) == 0 ? 20 : 400);
            case "damp1":
                return steps.below(2) == 0 ? 38 + steps.below(25) : steps.below(101);
            case "lend1": case "damp0": case "paid0":
                return steps.below(4);
            case "lend2": case "pass0":
                return 1 + steps.below(steps.below(4) == 0 ? 100 : 6);
            case "sell1":
                return 1 + steps.below(steps.below(2) == 0 ? 100000 : 500);
            case "has1":
                return steps.below(crowd + 1) - 1;
            case "clean1":
                return 1 + steps.below(3);
            case "of1":
                return steps.below(9);
            case "colour1": case "where1":
                return steps.below(name.equals("where") ? 4 : 3);
            default:
                return steps.below(crowd);
        }
    }
}
