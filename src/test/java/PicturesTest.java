/** Promises 8 to 10: picture, paint, clean. */
public final class PicturesTest {
    private static final int FEWEST = Integer.MIN_VALUE;
    private static final int MOST = Integer.MAX_VALUE;

    public static void main(String[] args) {
        picture();
        paint();
        paintRefused();
        mostLayers();
        clean();
        Checks.end("PicturesTest");
    }

    private static void picture() {
        AtelierBook book = new AtelierBook();
        for (int number = 0; number < 8; number++) {
            Checks.same("picture", number, book.picture());
            Checks.same("no layer", 0, book.of(number, 0));
            Checks.same("no crack", 0, book.of(number, 1));
            Checks.same("at home", AtelierBook.NONE, book.of(number, 4));
        }
        Checks.refused("ninth picture", Checks.STATE, book, book::picture);
    }

    private static void paint() {
        AtelierBook book = withPaint();
        book.picture();
        Checks.same("first layer", 1, book.paint(0, 0, 33));
        Checks.same("its first tube", 19, book.layer(0, 0, 0));
        Checks.same("its second tube", 14, book.layer(0, 0, 1));
        Checks.same("the pot's first tube", 11, book.has(0, 0));
        Checks.same("the pot's second tube", 6, book.has(0, 1));
        Checks.same("all the rest", 2, book.paint(0, 0, 17));
        Checks.same("the pot is empty", 0, book.has(0, AtelierBook.NONE));
        Checks.same("the lower layer stays", 19, book.layer(0, 0, 0));
        Checks.same("the upper one", 11, book.layer(0, 1, 0));
        Checks.same("the other picture stays", 0, book.of(1, 0));
    }

    private static void paintRefused() {
        AtelierBook book = withPaint();
        for (int bad : new int[] {FEWEST, -1, 1, 8, MOST}) {
            Checks.refused("picture " + bad, Checks.INDEX, book, () -> book.paint(bad, 0, 1));
            Checks.refused("pot " + bad, Checks.INDEX, book, () -> book.paint(0, bad, 1));
            Checks.refused("pot first " + bad, Checks.INDEX, book, () -> book.paint(0, bad, 0));
        }
        for (int bad : new int[] {FEWEST, -1, 0, 1001, MOST}) {
            Checks.refused("grams " + bad, Checks.ARGUMENT, book, () -> book.paint(0, 0, bad));
        }
        Checks.refused("too much", Checks.STATE, book, () -> book.paint(0, 0, 51));
        Checks.refused("most of all", Checks.STATE, book, () -> book.paint(0, 0, 1000));
        book.lend(0, 0, 1);
        Checks.refused("a lent one", Checks.STATE, book, () -> book.paint(0, 0, 1));
        Checks.refused("grams go first", Checks.ARGUMENT, book, () -> book.paint(0, 0, 0));
        Checks.refused("the pot goes first", Checks.INDEX, book, () -> book.paint(0, 1, 1));
        book.pass(1);
        Checks.same("as it is back", 1, book.paint(0, 0, 50));
        Checks.refused("of none", Checks.STATE, book, () -> book.paint(0, 0, 1));
    }

    private static void mostLayers() {
        AtelierBook book = withPaint();
        for (int layer = 1; layer <= 12; layer++) {
            Checks.same("layer", layer, book.paint(0, 0, 1));
        }
        Checks.refused("thirteenth layer", Checks.STATE, book, () -> book.paint(0, 0, 1));
        Checks.same("cleaned whole", 12, book.clean(0, 12));
        Checks.same("a layer again", 1, book.paint(0, 0, 1));
    }

    private static void clean() {
        AtelierBook book = withPaint();
        book.paint(0, 0, 1);
        book.paint(0, 0, 2);
        book.paint(0, 0, 4);
        for (int bad : new int[] {FEWEST, -1, 1, 8, MOST}) {
            Checks.refused("picture " + bad, Checks.INDEX, book, () -> book.clean(bad, 1));
            Checks.refused("picture first " + bad, Checks.INDEX, book, () -> book.clean(bad, 0));
        }
        for (int bad : new int[] {FEWEST, -1, 0, 13, MOST}) {
            Checks.refused("layers " + bad, Checks.ARGUMENT, book, () -> book.clean(0, bad));
        }
        Checks.refused("too many", Checks.STATE, book, () -> book.clean(0, 4));
        Checks.refused("most of all", Checks.STATE, book, () -> book.clean(0, 12));
        book.lend(0, 0, 1);
        Checks.refused("a lent one", Checks.STATE, book, () -> book.clean(0, 1));
        Checks.refused("layers go first", Checks.ARGUMENT, book, () -> book.clean(0, 13));
        book.pass(1);
        Checks.same("the two upper ones", 6, book.clean(0, 2));
        Checks.same("the lowest is left", 1, book.of(0, 0));
        Checks.refused("the middle one is gone", Checks.INDEX, book, () -> book.layer(0, 1, 0));
        Checks.same("what is wasted", 6, book.where(0, 3) + book.where(1, 3));
        Checks.same("what is on it", 1, book.where(0, 2) + book.where(1, 2));
        Checks.same("a new one over it", 2, book.paint(0, 0, 3));
        Checks.same("holds only what is new", 3, book.layer(0, 1, 0) + book.layer(0, 1, 1));
        Checks.same("all of them", 4, book.clean(0, 2));
        Checks.refused("of none", Checks.STATE, book, () -> book.clean(0, 1));
    }

    /** A picture, and a pot with 30 grams of a red tube and 20 of a blue one. */
    private static AtelierBook withPaint() {
        AtelierBook book = new AtelierBook();
        book.pigment(200, 0, 0);
        book.pigment(0, 0, 200);
        book.tube(0, 100);
        book.tube(1, 50);
        book.pot();
        book.squeeze(0, 0, 30);
        book.squeeze(0, 1, 20);
        book.picture();
        return book;
    }
}
