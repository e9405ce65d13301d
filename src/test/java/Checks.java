import java.util.Objects;

/** What the tests share: it compares, counts what is wrong, and ends the program by that. */
final class Checks {
    static final Class<? extends RuntimeException> INDEX = IndexOutOfBoundsException.class;
    static final Class<? extends RuntimeException> ARGUMENT = IllegalArgumentException.class;
    static final Class<? extends RuntimeException> STATE = IllegalStateException.class;

    private static int done = 0;
    private static int wrong = 0;

    private Checks() {
    }

    static void same(String what, Object due, Object got) {
        done++;
        if (!Objects.equals(due, got)) {
            wrong++;
            System.out.println(what + ": due is " + due + ", got " + got);
        }
    }

    /** A refused call throws exactly this exception, and every question answers as before. */
    static void refused(String what, Class<? extends RuntimeException> due, AtelierBook book,
            Runnable call) {
        String before = snapshot(book);
        Object got = "nothing thrown";
        try {
            call.run();
        } catch (RuntimeException thrown) {
            got = thrown.getClass();
        }
        same(what, due, got);
        same(what + " changes nothing", before, snapshot(book));
    }

    /** The answers of all questions, in range and just beyond it. */
    static String snapshot(AtelierBook book) {
        StringBuilder all = new StringBuilder();
        for (int tube = -1; tube <= 12; tube++) {
            int number = tube;
            all.append("\ntube ").append(tube).append(ask(() -> book.left(number)));
            for (int what = 0; what < 4; what++) {
                int place = what;
                all.append(ask(() -> book.where(number, place)));
            }
        }
        for (int pot = -1; pot <= 10; pot++) {
            int number = pot;
            all.append("\npot ").append(pot);
            for (int tube = -1; tube <= 12; tube++) {
                int of = tube;
                all.append(ask(() -> book.has(number, of)));
            }
            for (int what = 0; what < 3; what++) {
                int channel = what;
                all.append(ask(() -> book.colour(number, channel)));
            }
        }
        for (int picture = -1; picture <= 8; picture++) {
            all.append("\npicture ").append(picture);
            appendPicture(all, book, picture);
        }
        for (int house = -1; house <= 4; house++) {
            int number = house;
            all.append("\nhouse ").append(house).append(ask(() -> book.paid(number)));
        }
        return all.append("\nrecipe").append(ask(() -> book.recipe(100, 150, 200))).toString();
    }

    static void end(String test) {
        System.out.println(test + ": " + done + " checks, " + wrong + " wrong");
        if (done == 0 || wrong != 0) {
            System.exit(1);
        }
    }

    private static void appendPicture(StringBuilder all, AtelierBook book, int picture) {
        for (int what = 0; what < 9; what++) {
            int about = what;
            all.append(ask(() -> book.of(picture, about)));
        }
        for (int layer = 0; layer <= 12; layer++) {
            for (int tube = 0; tube <= 12; tube++) {
                int number = layer;
                int of = tube;
                all.append(ask(() -> book.layer(picture, number, of)));
            }
        }
    }

    private static String ask(java.util.function.IntSupplier question) {
        try {
            return " " + question.getAsInt();
        } catch (IndexOutOfBoundsException none) {
            // What the machine throws itself is of a class below this one.
            same("a question throws", INDEX, none.getClass());
            return " -";
        }
    }
}
