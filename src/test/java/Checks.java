import java.util.Objects;

/** What the tests share: it compares, counts what is wrong, and ends the program by that. */
final class Checks {
    static final Class<? extends RuntimeException> INDEX = IndexOutOfBoundsException.class;
    static final Class<? extends RuntimeException> ARGUMENT = IllegalArgumentException.class;
    static final Class<? extends RuntimeException> STATE = IllegalStateException.class;

    private static int done = 0;
    private static int wrong = 0;

    private Checks() {
    }

    static void same(String what, Object due, Object got) {
        done++;
        if (!Objects.equals(due, got)) {
            wrong++;
            System.out.println(what + ": due is " + due + ", got " + got);
        }
    }

    static void end(String test) {
        System.out.println(test + ": " + done + " checks, " + wrong + " wrong");
        if (done == 0 || wrong != 0) {
            System.exit(1);
        }
    }
}
