/** Promises 1 to 7: a new object, pigment, tube, pot, squeeze, pour, scrape. */
public final class TubesAndPotsTest {
    private static final int FEWEST = Integer.MIN_VALUE;
    private static final int MOST = Integer.MAX_VALUE;

    public static void main(String[] args) {
        newObject();
        pigment();
        tube();
        pot();
        squeeze();
        pour();
        pourByTubes();
        scrape();
        Checks.end("TubesAndPotsTest");
    }

    private static void newObject() {
        AtelierBook book = new AtelierBook();
        Checks.refused("no tube at first", Checks.INDEX, book, () -> book.left(0));
        Checks.refused("no pigment at first", Checks.INDEX, book, () -> book.tube(0, 1));
        Checks.refused("no pot at first", Checks.INDEX, book, () -> book.scrape(0));
        Checks.refused("no picture at first", Checks.INDEX, book, () -> book.of(0, 0));
        Checks.same("no recipe at first", AtelierBook.NONE, book.recipe(0, 0, 0));
        for (int house = 0; house < 4; house++) {
            Checks.same("nothing paid at first", 0, book.paid(house));
            Checks.same("damp at first", 50, book.damp(house, 50));
        }
        Checks.same("day 0 at first", 1, book.pass(1));
        AtelierBook other = new AtelierBook();
        Checks.same("books stand alone", 1, other.pass(1));
    }

    private static void pigment() {
        AtelierBook book = new AtelierBook();
        for (int bad : new int[] {FEWEST, -1, 256, MOST}) {
            Checks.refused("red " + bad, Checks.ARGUMENT, book, () -> book.pigment(bad, 0, 0));
            Checks.refused("green " + bad, Checks.ARGUMENT, book, () -> book.pigment(0, bad, 0));
            Checks.refused("blue " + bad, Checks.ARGUMENT, book, () -> book.pigment(0, 0, bad));
        }
        Checks.same("darkest pigment", 0, book.pigment(0, 0, 0));
        Checks.same("brightest pigment", 1, book.pigment(255, 255, 255));
        Checks.same("a pigment again", 2, book.pigment(255, 255, 255));
        for (int number = 3; number < 6; number++) {
            Checks.same("pigment", number, book.pigment(10 * number, 20 * number, 30 * number));
        }
        Checks.refused("seventh pigment", Checks.STATE, book, () -> book.pigment(1, 2, 3));
        Checks.refused("range goes first", Checks.ARGUMENT, book, () -> book.pigment(1, 2, 256));
        Checks.same("tube of the last pigment", 0, book.tube(5, 1));
        book.squeeze(book.pot(), 0, 1);
        Checks.same("its red", 50, book.colour(0, 0));
        Checks.same("its green", 100, book.colour(0, 1));
        Checks.same("its blue", 150, book.colour(0, 2));
    }

    private static void tube() {
        AtelierBook book = new AtelierBook();
        book.pigment(1, 2, 3);
        for (int bad : new int[] {FEWEST, -1, 1, 6, MOST}) {
            Checks.refused("pigment " + bad, Checks.INDEX, book, () -> book.tube(bad, 1));
            Checks.refused("pigment first " + bad, Checks.INDEX, book, () -> book.tube(bad, 0));
        }
        for (int bad : new int[] {FEWEST, -1, 0, 1001, MOST}) {
            Checks.refused("grams " + bad, Checks.ARGUMENT, book, () -> book.tube(0, bad));
        }
        Checks.same("smallest tube", 0, book.tube(0, 1));
        Checks.same("largest tube", 1, book.tube(0, 1000));
        Checks.same("grams of the smallest", 1, book.left(0));
        Checks.same("grams of the largest", 1000, book.left(1));
        for (int number = 2; number < 12; number++) {
            Checks.same("tube", number, book.tube(0, number));
        }
        Checks.refused("thirteenth tube", Checks.STATE, book, () -> book.tube(0, 1));
        Checks.refused("pigment goes first", Checks.INDEX, book, () -> book.tube(1, 1));
        Checks.refused("grams go first", Checks.ARGUMENT, book, () -> book.tube(0, 0));
    }

    private static void pot() {
        AtelierBook book = new AtelierBook();
        for (int number = 0; number < 10; number++) {
            Checks.same("pot", number, book.pot());
            Checks.same("it is empty", 0, book.has(number, AtelierBook.NONE));
        }
        Checks.refused("eleventh pot", Checks.STATE, book, book::pot);
    }

    private static void squeeze() {
        AtelierBook book = withTubes(1000, 30);
        book.pot();
        for (int bad : new int[] {FEWEST, -1, 2, 10, MOST}) {
            Checks.refused("pot " + bad, Checks.INDEX, book, () -> book.squeeze(bad, 0, 1));
            Checks.refused("tube " + bad, Checks.INDEX, book, () -> book.squeeze(0, bad, 1));
            Checks.refused("pot first " + bad, Checks.INDEX, book, () -> book.squeeze(bad, 0, 0));
            Checks.refused("tube first " + bad, Checks.INDEX, book, () -> book.squeeze(0, bad, 0));
        }
        for (int bad : new int[] {FEWEST, -1, 0, 1001, MOST}) {
            Checks.refused("grams " + bad, Checks.ARGUMENT, book, () -> book.squeeze(0, 1, bad));
        }
        Checks.refused("too much", Checks.STATE, book, () -> book.squeeze(0, 1, 31));
        Checks.same("some", 20, book.squeeze(1, 1, 10));
        Checks.refused("too much then", Checks.STATE, book, () -> book.squeeze(1, 1, 21));
        Checks.same("the rest", 0, book.squeeze(1, 1, 20));
        Checks.refused("of none", Checks.STATE, book, () -> book.squeeze(1, 1, 1));
        Checks.same("a whole tube", 0, book.squeeze(0, 0, 1000));
        Checks.same("in pot 1", 30, book.has(1, 1));
        Checks.same("nothing else in pot 1", 30, book.has(1, AtelierBook.NONE));
        Checks.same("in pot 0", 1000, book.has(0, 0));
    }

    private static void pour() {
        AtelierBook book = withTubes(100, 50);
        book.pot();
        book.squeeze(0, 0, 30);
        book.squeeze(0, 1, 20);
        for (int bad : new int[] {FEWEST, -1, 2, 10, MOST}) {
            Checks.refused("pot " + bad, Checks.INDEX, book, () -> book.pour(bad, 0, 1));
            Checks.refused("other " + bad, Checks.INDEX, book, () -> book.pour(0, bad, 1));
            Checks.refused("pots first " + bad, Checks.INDEX, book, () -> book.pour(bad, bad, 0));
        }
        for (int bad : new int[] {FEWEST, -1, 0, 12001, MOST}) {
            Checks.refused("grams " + bad, Checks.ARGUMENT, book, () -> book.pour(0, 1, bad));
        }
        Checks.refused("into itself", Checks.ARGUMENT, book, () -> book.pour(0, 0, 1));
        Checks.refused("too much into itself", Checks.ARGUMENT, book, () -> book.pour(1, 1, 1));
        Checks.refused("too much", Checks.STATE, book, () -> book.pour(0, 1, 51));
        Checks.refused("most of all", Checks.STATE, book, () -> book.pour(0, 1, 12000));
        Checks.refused("of none", Checks.STATE, book, () -> book.pour(1, 0, 1));
        Checks.same("some", 7, book.pour(0, 1, 7));
        Checks.same("first tube, there", 4, book.has(1, 0));
        Checks.same("second tube, there", 3, book.has(1, 1));
        Checks.same("first tube, yet", 26, book.has(0, 0));
        Checks.same("second tube, yet", 17, book.has(0, 1));
        Checks.same("all the rest", 50, book.pour(0, 1, 43));
        Checks.same("the pot is empty", 0, book.has(0, AtelierBook.NONE));
        Checks.same("all back", 50, book.pour(1, 0, 50));
        Checks.same("first tube, back", 30, book.has(0, 0));
        Checks.same("what is left stays", 70, book.left(0));
        mostPoured();
    }

    private static void mostPoured() {
        AtelierBook book = new AtelierBook();
        book.pigment(255, 255, 255);
        book.pot();
        book.pot();
        for (int tube = 0; tube < 12; tube++) {
            book.tube(0, 1000);
            book.squeeze(0, tube, 1000);
        }
        Checks.same("twelve tubes' colour", 255, book.colour(0, 0));
        Checks.same("twelve tubes at once", 12000, book.pour(0, 1, 12000));
        Checks.same("all but a gram", 11999, book.pour(1, 0, 11999));
        Checks.same("the first one is left a gram", 1, book.has(1, 0));
    }

    /** Of three grams alike, the single grams come of the last tube, then of the others. */
    private static void pourByTubes() {
        AtelierBook book = withTubes(3, 3, 3);
        book.pot();
        for (int tube = 0; tube < 3; tube++) {
            book.squeeze(0, tube, 3);
        }
        book.pour(0, 1, 1);
        Checks.same("a gram of 3, 3, 3", "0 0 1", inPot(book, 1));
        book.pour(0, 1, 1);
        Checks.same("a gram of 3, 3, 2", "0 0 2", inPot(book, 1));
        book.pour(0, 1, 4);
        Checks.same("four grams of 3, 3, 1", "1 2 3", inPot(book, 1));
        Checks.same("what is left", "2 1 0", inPot(book, 0));
        book.pour(0, 1, 2);
        Checks.same("two grams of 2, 1, 0", "2 3 3", inPot(book, 1));
    }

    private static void scrape() {
        AtelierBook book = withTubes(100, 50);
        for (int bad : new int[] {FEWEST, -1, 1, 10, MOST}) {
            Checks.refused("pot " + bad, Checks.INDEX, book, () -> book.scrape(bad));
        }
        Checks.same("an empty pot", 0, book.scrape(0));
        book.squeeze(0, 0, 10);
        book.squeeze(0, 1, 20);
        Checks.same("a full pot", 30, book.scrape(0));
        Checks.same("it is empty then", 0, book.has(0, AtelierBook.NONE));
        Checks.same("and again", 0, book.scrape(0));
        Checks.same("waste of tube 0", 10, book.where(0, 3));
        Checks.same("waste of tube 1", 20, book.where(1, 3));
        book.squeeze(0, 0, 5);
        Checks.same("used again", 5, book.scrape(0));
        Checks.same("waste adds up", 15, book.where(0, 3));
    }

    private static AtelierBook withTubes(int... grams) {
        AtelierBook book = new AtelierBook();
        book.pot();
        for (int tube = 0; tube < grams.length; tube++) {
            book.pigment(10 * tube, 20 * tube, 30 * tube);
            book.tube(tube, grams[tube]);
        }
        return book;
    }

    private static String inPot(AtelierBook book, int pot) {
        return book.has(pot, 0) + " " + book.has(pot, 1) + " " + book.has(pot, 2);
    }
}
