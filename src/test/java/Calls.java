/** The calls of the book by their names, so that a test can tell a run of them as text. */
final class Calls {
    private Calls() {
    }

    /** The answer to a call told as text, such as "squeeze 0 1 20". */
    static String answer(AtelierBook book, String text) {
        String[] words = text.trim().split(" +");
        int[] args = new int[3];
        for (int word = 1; word < words.length; word++) {
            args[word - 1] = Integer.parseInt(words[word]);
        }
        return answer(book, words[0], args[0], args[1], args[2]);
    }

    /** The number that a call answers, or the name of the exception that it throws. */
    static String answer(AtelierBook book, String name, int a, int b, int c) {
        try {
            return Integer.toString(call(book, name, a, b, c));
        } catch (RuntimeException thrown) {
            // What the machine throws itself is a class below these, and so never the same.
            return thrown.getClass().getSimpleName();
        }
    }

    private static int call(AtelierBook book, String name, int a, int b, int c) {
        switch (name) {
            case "pigment": return book.pigment(a, b, c);
            case "tube": return book.tube(a, b);
            case "pot": return book.pot();
            case "squeeze": return book.squeeze(a, b, c);
            case "pour": return book.pour(a, b, c);
            case "scrape": return book.scrape(a);
            case "picture": return book.picture();
            case "paint": return book.paint(a, b, c);
            case "clean": return book.clean(a, b);
            case "damp": return book.damp(a, b);
            case "lend": return book.lend(a, b, c);
            case "sell": return book.sell(a, b);
            case "pass": return book.pass(a);
            case "left": return book.left(a);
            case "has": return book.has(a, b);
            case "colour": return book.colour(a, b);
            case "of": return book.of(a, b);
            case "layer": return book.layer(a, b, c);
            case "where": return book.where(a, b);
            case "recipe": return book.recipe(a, b, c);
            case "paid": return book.paid(a);
            default: throw new AssertionError(name);
        }
    }
}
