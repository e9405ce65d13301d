/** Promises 15 to 22: left, has, colour, of, layer, where, recipe, paid. */
public final class QuestionsTest {
    private static final int FEWEST = Integer.MIN_VALUE;
    private static final int MOST = Integer.MAX_VALUE;

    public static void main(String[] args) {
        left();
        has();
        colour();
        of();
        mainPigment();
        layer();
        where();
        recipe();
        recipeTies();
        recipeRoundsTheSum();
        paid();
        fullShop();
        Checks.end("QuestionsTest");
    }

    private static void left() {
        AtelierBook book = withPaint();
        for (int bad : new int[] {FEWEST, -1, 3, 12, MOST}) {
            Checks.refused("tube " + bad, Checks.INDEX, book, () -> book.left(bad));
        }
        Checks.same("tube 0", 7, book.left(0));
        Checks.same("tube 1", 8, book.left(1));
        Checks.same("tube 2", 10, book.left(2));
        book.squeeze(0, 2, 10);
        Checks.same("none", 0, book.left(2));
    }

    private static void has() {
        AtelierBook book = withPaint();
        for (int bad : new int[] {FEWEST, -1, 2, 10, MOST}) {
            Checks.refused("pot " + bad, Checks.INDEX, book, () -> book.has(bad, 0));
            Checks.refused("pot, of all " + bad, Checks.INDEX, book,
                    () -> book.has(bad, AtelierBook.NONE));
        }
        for (int bad : new int[] {FEWEST, -2, 3, 12, MOST}) {
            Checks.refused("tube " + bad, Checks.INDEX, book, () -> book.has(0, bad));
        }
        Checks.same("of tube 0", 3, book.has(0, 0));
        Checks.same("of tube 1", 2, book.has(0, 1));
        Checks.same("of tube 2", 0, book.has(0, 2));
        Checks.same("of all", 5, book.has(0, AtelierBook.NONE));
        Checks.same("an empty pot", 0, book.has(1, AtelierBook.NONE));
        Checks.same("an empty pot of a tube", 0, book.has(1, 0));
    }

    private static void colour() {
        AtelierBook book = withPaint();
        for (int bad : new int[] {FEWEST, -1, 2, 10, MOST}) {
            Checks.refused("pot " + bad, Checks.INDEX, book, () -> book.colour(bad, 0));
            Checks.refused("pot first " + bad, Checks.INDEX, book, () -> book.colour(bad, 3));
        }
        for (int bad : new int[] {FEWEST, -1, 3, MOST}) {
            Checks.refused("what " + bad, Checks.ARGUMENT, book, () -> book.colour(0, bad));
            Checks.refused("what, empty " + bad, Checks.ARGUMENT, book, () -> book.colour(1, bad));
        }
        Checks.same("red", 153, book.colour(0, 0));
        Checks.same("green is rounded down", 79, book.colour(0, 1));
        Checks.same("blue", 40, book.colour(0, 2));
        for (int what = 0; what < 3; what++) {
            Checks.same("an empty pot", AtelierBook.NONE, book.colour(1, what));
        }
    }

    private static void of() {
        AtelierBook book = withPaint();
        book.picture();
        for (int bad : new int[] {FEWEST, -1, 1, 8, MOST}) {
            Checks.refused("picture " + bad, Checks.INDEX, book, () -> book.of(bad, 0));
            Checks.refused("picture first " + bad, Checks.INDEX, book, () -> book.of(bad, 9));
        }
        for (int bad : new int[] {FEWEST, -1, 9, MOST}) {
            Checks.refused("what " + bad, Checks.ARGUMENT, book, () -> book.of(0, bad));
        }
        Checks.same("a bare one", "0 0 0 -1 -1 0 -1 -1 -1", allOf(book, 0));
        book.paint(0, 0, 5);
        Checks.same("a painted one", "1 0 0 0 -1 0 153 79 40", allOf(book, 0));
        book.sell(0, 1000);
        book.damp(2, 0);
        book.lend(0, 2, 9);
        Checks.same("a lent one", "1 0 1000 0 2 9 153 79 40", allOf(book, 0));
        book.pass(4);
        Checks.same("a cracked one", "1 4 800 0 2 5 153 79 40", allOf(book, 0));
        book.pass(5);
        book.squeeze(0, 2, 1);
        book.paint(0, 0, 1);
        Checks.same("a new look", "2 9 550 1 -1 0 0 0 100", allOf(book, 0));
    }

    /** The grams of a pigment's tubes go together; of several pigments alike the lowest is main. */
    private static void mainPigment() {
        AtelierBook book = new AtelierBook();
        for (int pigment = 0; pigment < 3; pigment++) {
            book.pigment(pigment, pigment, pigment);
        }
        int[] pigments = {2, 1, 0, 1};
        for (int tube = 0; tube < 4; tube++) {
            book.tube(pigments[tube], 100);
        }
        int[][] grams = {{4, 3, 0, 0}, {4, 3, 0, 2}, {4, 2, 0, 2}, {5, 2, 0, 2}, {4, 2, 4, 2}};
        int[] mains = {2, 1, 1, 2, 0};
        book.pot();
        book.picture();
        for (int mix = 0; mix < grams.length; mix++) {
            int all = 0;
            for (int tube = 0; tube < 4; tube++) {
                if (grams[mix][tube] > 0) {
                    book.squeeze(0, tube, grams[mix][tube]);
                    all += grams[mix][tube];
                }
            }
            book.paint(0, 0, all);
            Checks.same("main pigment of mix " + mix, mains[mix], book.of(0, 3));
        }
    }

    private static void layer() {
        AtelierBook book = withPaint();
        book.picture();
        book.picture();
        book.paint(0, 0, 2);
        book.paint(0, 0, 3);
        for (int bad : new int[] {FEWEST, -1, 2, 8, MOST}) {
            Checks.refused("picture " + bad, Checks.INDEX, book, () -> book.layer(bad, 0, 0));
            Checks.refused("layer " + bad, Checks.INDEX, book, () -> book.layer(0, bad, 0));
            Checks.refused("of a bare one " + bad, Checks.INDEX, book,
                    () -> book.layer(1, bad, 0));
        }
        for (int bad : new int[] {FEWEST, -1, 3, 12, MOST}) {
            Checks.refused("tube " + bad, Checks.INDEX, book, () -> book.layer(0, 0, bad));
        }
        Checks.same("the lowest of tube 0", 1, book.layer(0, 0, 0));
        Checks.same("the lowest of tube 1", 1, book.layer(0, 0, 1));
        Checks.same("the upper of tube 0", 2, book.layer(0, 1, 0));
        Checks.same("the upper of tube 1", 1, book.layer(0, 1, 1));
        Checks.same("the upper of tube 2", 0, book.layer(0, 1, 2));
    }

    private static void where() {
        AtelierBook book = withPaint();
        for (int bad : new int[] {FEWEST, -1, 3, 12, MOST}) {
            Checks.refused("tube " + bad, Checks.INDEX, book, () -> book.where(bad, 0));
            Checks.refused("tube first " + bad, Checks.INDEX, book, () -> book.where(bad, 4));
        }
        for (int bad : new int[] {FEWEST, -1, 4, MOST}) {
            Checks.refused("what " + bad, Checks.ARGUMENT, book, () -> book.where(0, bad));
        }
        Checks.same("in a pot", "7 3 0 0", whereIs(book, 0));
        book.pour(0, 1, 2);
        Checks.same("in two pots", "7 3 0 0", whereIs(book, 0));
        book.picture();
        book.picture();
        book.paint(0, 0, 2);
        book.paint(1, 0, 1);
        Checks.same("on two pictures", "7 1 2 0", whereIs(book, 0));
        Checks.same("the other tube", "8 1 1 0", whereIs(book, 1));
        book.clean(1, 1);
        book.scrape(1);
        Checks.same("wasted", "7 0 1 2", whereIs(book, 0));
        Checks.same("the other tube's waste", "8 0 1 1", whereIs(book, 1));
        Checks.same("an unused tube", "10 0 0 0", whereIs(book, 2));
    }

    private static void recipe() {
        AtelierBook book = new AtelierBook();
        Checks.same("without tubes", AtelierBook.NONE, book.recipe(0, 0, 0));
        for (int bad : new int[] {FEWEST, -1, 256, MOST}) {
            Checks.refused("red " + bad, Checks.ARGUMENT, book, () -> book.recipe(bad, 0, 0));
            Checks.refused("green " + bad, Checks.ARGUMENT, book, () -> book.recipe(0, bad, 0));
            Checks.refused("blue " + bad, Checks.ARGUMENT, book, () -> book.recipe(0, 0, bad));
        }
        book.pigment(200, 0, 0);
        book.pigment(0, 0, 200);
        Checks.same("with pigments alone", AtelierBook.NONE, book.recipe(0, 0, 0));
        book.tube(0, 10);
        book.tube(1, 10);
        Checks.same("none of the first", 10, book.recipe(0, 0, 255));
        Checks.same("a quarter", 11, book.recipe(50, 0, 150));
        Checks.same("a half", 12, book.recipe(100, 0, 100));
        Checks.same("three quarters", 13, book.recipe(150, 0, 50));
        Checks.same("the first alone", 0, book.recipe(200, 0, 0));
        book.pot();
        book.squeeze(0, 0, 10);
        Checks.same("what is left", 1010, book.recipe(200, 0, 0));
        book.squeeze(0, 1, 10);
        Checks.same("nothing left", AtelierBook.NONE, book.recipe(200, 0, 0));
    }

    private static void recipeTies() {
        AtelierBook book = new AtelierBook();
        book.pigment(0, 0, 0);
        book.pigment(100, 0, 0);
        book.tube(1, 10);
        book.tube(0, 10);
        book.tube(0, 10);
        book.tube(1, 10);
        Checks.same("the lowest second one", 11, book.recipe(25, 0, 0));
        Checks.same("nearer without the first", 10, book.recipe(12, 0, 0));
        Checks.same("halfway, the fewest parts", 1031, halfway());
        Checks.same("the lowest first one", 0, book.recipe(255, 0, 0));
        book.pot();
        book.squeeze(0, 0, 10);
        Checks.same("black of itself", 1010, book.recipe(0, 0, 0));
        Checks.same("the lowest first one of two", 1033, book.recipe(25, 0, 0));
        Checks.same("the last one alone", 1030, book.recipe(255, 0, 0));
    }

    /** A sample in the middle of the mixes 1 + 3 and 2 + 2 of tubes 1 and 3. */
    private static int halfway() {
        AtelierBook book = new AtelierBook();
        book.pigment(0, 8, 0);
        book.pigment(0, 0, 0);
        book.pigment(0, 0, 255);
        book.tube(2, 1);
        book.tube(0, 1);
        book.tube(2, 1);
        book.tube(1, 1);
        return book.recipe(0, 3, 0);
    }

    private static void recipeRoundsTheSum() {
        AtelierBook book = new AtelierBook();
        book.pigment(3, 255, 0);
        book.pigment(3, 0, 255);
        book.tube(0, 1);
        book.tube(1, 1);
        Checks.same("two halves of 3 are 3", 12, book.recipe(3, 127, 127));
        AtelierBook close = new AtelierBook();
        close.pigment(1, 0, 0);
        close.pigment(0, 0, 0);
        close.tube(0, 1);
        close.tube(1, 1);
        Checks.same("three quarters of 1 are 0", 0, close.recipe(1, 0, 0));
        Checks.same("and no parts are fewer", 10, close.recipe(0, 0, 0));
    }

    private static void paid() {
        AtelierBook book = withPaint();
        for (int bad : new int[] {FEWEST, -1, 4, MOST}) {
            Checks.refused("house " + bad, Checks.INDEX, book, () -> book.paid(bad));
        }
        book.picture();
        book.paint(0, 0, 5);
        book.sell(0, 1000);
        for (int house = 0; house < 4; house++) {
            book.lend(0, house, house + 1);
            book.pass(house + 2);
        }
        for (int house = 0; house < 4; house++) {
            Checks.same("house " + house, 11 * (house + 1), book.paid(house));
        }
    }

    /** As many of everything as there can be: the last ones work as the others do. */
    private static void fullShop() {
        AtelierBook book = new AtelierBook();
        for (int pigment = 0; pigment < 6; pigment++) {
            book.pigment(40 * pigment, 0, 0);
        }
        for (int tube = 0; tube < 12; tube++) {
            book.tube(tube % 6, 1000);
        }
        for (int pot = 0; pot < 10; pot++) {
            book.pot();
            for (int tube = 0; tube < 12; tube++) {
                book.squeeze(pot, tube, 10 + tube);
            }
        }
        for (int picture = 0; picture < 8; picture++) {
            book.picture();
            for (int layer = 0; layer < 12; layer++) {
                book.paint(picture, picture, layer == 11 ? 2 : 12);
            }
        }
        for (int tube = 0; tube < 12; tube++) {
            int[] grams = new int[4];
            for (int place = 0; place < 4; place++) {
                grams[place] = book.where(tube, place);
            }
            Checks.same("in tube " + tube, 1000 - 10 * (10 + tube), grams[0]);
            Checks.same("all of tube " + tube, 1000, grams[0] + grams[1] + grams[2] + grams[3]);
        }
        Checks.same("the last pot", 186, book.has(9, AtelierBook.NONE));
        Checks.same("its last tube", 21, book.has(9, 11));
        Checks.same("the last picture's value", 700, book.sell(7, 700));
        Checks.same("the lowest first tube", 50, book.recipe(200, 0, 0));
        book.squeeze(9, 5, 850);
        Checks.same("the last tube", 110, book.recipe(200, 0, 0));
        Checks.same("off the last picture", 134, book.clean(7, 12));
        Checks.same("wasted of the last tube", 1000, book.where(11, 0) + book.where(11, 1)
                + book.where(11, 2) + book.where(11, 3));
        Checks.same("the others keep their layers", 12, book.of(6, 0));
        book.lend(7, 3, 2);
        Checks.same("a day of eight pictures", 1, book.pass(1));
        Checks.same("of the last picture", 1, book.of(7, 5));
        Checks.snapshot(book);
    }

    private static String allOf(AtelierBook book, int picture) {
        StringBuilder all = new StringBuilder();
        for (int what = 0; what < 9; what++) {
            all.append(what == 0 ? "" : " ").append(book.of(picture, what));
        }
        return all.toString();
    }

    private static String whereIs(AtelierBook book, int tube) {
        return book.where(tube, 0) + " " + book.where(tube, 1) + " "
                + book.where(tube, 2) + " " + book.where(tube, 3);
    }

    /** Three tubes of 10 grams; of two of them, 3 and 2 grams in the first of two pots. */
    private static AtelierBook withPaint() {
        AtelierBook book = new AtelierBook();
        book.pigment(255, 133, 1);
        book.pigment(0, 0, 100);
        for (int tube = 0; tube < 3; tube++) {
            book.tube(tube == 0 ? 0 : 1, 10);
        }
        book.pot();
        book.pot();
        book.squeeze(0, 0, 3);
        book.squeeze(0, 1, 2);
        return book;
    }
}
