/** Promises 11 to 14: damp, lend, sell, pass; and what a picture is worth. */
public final class LoansAndSalesTest {
    private static final int FEWEST = Integer.MIN_VALUE;
    private static final int MOST = Integer.MAX_VALUE;

    public static void main(String[] args) {
        damp();
        dampAndCracks();
        dampChangesDuringLoan();
        lend();
        lendCosts();
        cracksKeepHome();
        sell();
        valueOfAlike();
        valueOfBarePicture();
        valueOfCracked();
        pass();
        passBeyondLoan();
        lastDay();
        Checks.end("LoansAndSalesTest");
    }

    private static void damp() {
        AtelierBook book = new AtelierBook();
        for (int bad : new int[] {FEWEST, -1, 4, MOST}) {
            Checks.refused("house " + bad, Checks.INDEX, book, () -> book.damp(bad, 50));
            Checks.refused("house first " + bad, Checks.INDEX, book, () -> book.damp(bad, 101));
        }
        for (int bad : new int[] {FEWEST, -1, 101, MOST}) {
            Checks.refused("damp " + bad, Checks.ARGUMENT, book, () -> book.damp(0, bad));
        }
        for (int house = 0; house < 4; house++) {
            Checks.same("at first", 50, book.damp(house, 0));
            Checks.same("driest", 0, book.damp(house, 100));
            Checks.same("dampest", 100, book.damp(house, house));
        }
        for (int house = 0; house < 4; house++) {
            Checks.same("each its own", house, book.damp(house, 50));
        }
    }

    private static void dampAndCracks() {
        int[] damps = {0, 39, 40, 50, 60, 61, 100};
        int[] cracks = {1, 1, 0, 0, 0, 1, 1};
        for (int i = 0; i < damps.length; i++) {
            AtelierBook book = withPictures(1);
            book.damp(2, damps[i]);
            book.lend(0, 2, 1);
            book.pass(1);
            Checks.same("cracks by the damp " + damps[i], cracks[i], book.of(0, 1));
            book.pass(1);
            Checks.same("none at home", cracks[i], book.of(0, 1));
        }
    }

    private static void dampChangesDuringLoan() {
        AtelierBook book = withPictures(2);
        book.lend(0, 3, 10);
        book.lend(1, 2, 10);
        book.pass(2);
        book.damp(3, 90);
        book.pass(3);
        book.damp(3, 50);
        book.pass(5);
        Checks.same("cracks of the damp days", 3, book.of(0, 1));
        Checks.same("none of the other house", 0, book.of(1, 1));
    }

    private static void lend() {
        AtelierBook book = withPictures(1);
        for (int bad : new int[] {FEWEST, -1, 1, 8, MOST}) {
            Checks.refused("picture " + bad, Checks.INDEX, book, () -> book.lend(bad, 0, 1));
            Checks.refused("picture first " + bad, Checks.INDEX, book, () -> book.lend(bad, 0, 0));
        }
        for (int bad : new int[] {FEWEST, -1, 4, MOST}) {
            Checks.refused("house " + bad, Checks.INDEX, book, () -> book.lend(0, bad, 1));
            Checks.refused("house first " + bad, Checks.INDEX, book, () -> book.lend(0, bad, 0));
        }
        for (int bad : new int[] {FEWEST, -1, 0, 101, MOST}) {
            Checks.refused("days " + bad, Checks.ARGUMENT, book, () -> book.lend(0, 0, bad));
        }
        Checks.same("without a value", 1, book.lend(0, 3, 100));
        Checks.same("the house", 3, book.of(0, 4));
        Checks.same("the days", 100, book.of(0, 5));
        Checks.refused("a lent one", Checks.STATE, book, () -> book.lend(0, 3, 1));
        Checks.refused("days go first", Checks.ARGUMENT, book, () -> book.lend(0, 3, 101));
        Checks.refused("house goes first", Checks.INDEX, book, () -> book.lend(0, 4, 1));
        book.picture();
        Checks.same("without a layer, too", 1, book.lend(1, 0, 1));
    }

    private static void lendCosts() {
        AtelierBook book = withPictures(2);
        book.sell(0, 199);
        Checks.same("a hundredth, and 1", 2, book.lend(0, 1, 10));
        Checks.same("nothing paid yet", 0, book.paid(1));
        book.pass(1);
        Checks.same("a day", 2, book.paid(1));
        book.sell(1, 100000);
        Checks.same("a sale changes the value", 50099, book.of(0, 2));
        book.pass(4);
        Checks.same("but not the cost", 10, book.paid(1));
        Checks.same("another loan there", 501, book.lend(1, 1, 2));
        book.pass(5);
        Checks.same("both loans", 20 + 2 * 501, book.paid(1));
        Checks.same("the value as it is lent again", 501, book.lend(0, 0, 1));
        book.pass(1);
        Checks.same("the other house", 501, book.paid(0));
        Checks.same("pays for itself", 20 + 2 * 501, book.paid(1));
    }

    private static void cracksKeepHome() {
        AtelierBook book = withPictures(1);
        book.damp(0, 100);
        book.lend(0, 0, 9);
        book.pass(9);
        Checks.same("nine cracks are lent", 1, book.lend(0, 0, 1));
        book.pass(1);
        Checks.same("ten", 10, book.of(0, 1));
        Checks.refused("are not", Checks.STATE, book, () -> book.lend(0, 1, 1));
        Checks.refused("house goes first", Checks.INDEX, book, () -> book.lend(0, 4, 1));
        Checks.refused("days go first", Checks.ARGUMENT, book, () -> book.lend(0, 1, 0));
        Checks.same("but may be painted", 2, book.paint(0, 0, 1));
        Checks.same("and sold", 50, book.sell(0, 100));
    }

    private static void sell() {
        AtelierBook book = withPictures(1);
        book.picture();
        for (int bad : new int[] {FEWEST, -1, 2, 8, MOST}) {
            Checks.refused("picture " + bad, Checks.INDEX, book, () -> book.sell(bad, 1));
            Checks.refused("picture first " + bad, Checks.INDEX, book, () -> book.sell(bad, 0));
        }
        for (int bad : new int[] {FEWEST, -1, 0, 100001, MOST}) {
            Checks.refused("price " + bad, Checks.ARGUMENT, book, () -> book.sell(0, bad));
            Checks.refused("price first " + bad, Checks.ARGUMENT, book, () -> book.sell(1, bad));
        }
        Checks.refused("without a layer", Checks.STATE, book, () -> book.sell(1, 1));
        Checks.same("least price", 1, book.sell(0, 1));
        Checks.same("most price", 100000, book.sell(0, 100000));
        Checks.same("the latest sale alone", 7, book.sell(0, 7));
        Checks.same("it stays in the book", 1, book.of(0, 0));
        book.lend(0, 0, 1);
        Checks.refused("a lent one", Checks.STATE, book, () -> book.sell(0, 1));
        Checks.refused("price goes first", Checks.ARGUMENT, book, () -> book.sell(0, 0));
        book.pass(1);
        Checks.same("as it is back", 8, book.sell(0, 8));
    }

    private static void valueOfAlike() {
        AtelierBook book = withPictures(3);
        Checks.same("without any", 0, book.of(0, 2));
        Checks.same("one sold", 1000, book.sell(0, 1000));
        Checks.same("all alike", 1000, book.of(1, 2));
        Checks.same("the sum, divided", 750, book.sell(1, 501));
        Checks.same("not sold itself", 750, book.of(2, 2));
        book.paint(2, 1, 1);
        Checks.same("no more alike", 0, book.of(2, 2));
        Checks.same("by its own sale", 90, book.sell(2, 90));
        book.paint(0, 1, 1);
        Checks.same("alike by the uppermost layer", 545, book.of(0, 2));
        Checks.same("the other of these", 545, book.of(2, 2));
        Checks.same("what is left of those", 501, book.of(1, 2));
        book.lend(2, 0, 1);
        Checks.same("lent ones, too", 545, book.of(0, 2));
        book.clean(0, 1);
        Checks.same("alike again", 750, book.of(0, 2));
        Checks.same("and not with that", 90, book.of(2, 2));
    }

    private static void valueOfBarePicture() {
        AtelierBook book = withPictures(2);
        book.sell(0, 300);
        book.sell(1, 100);
        book.clean(0, 1);
        Checks.same("bare", 0, book.of(0, 2));
        Checks.same("without the bare one", 100, book.of(1, 2));
        book.clean(1, 1);
        Checks.same("two bare ones are not alike", 0, book.of(1, 2));
        Checks.same("the cost of a bare one", 1, book.lend(0, 0, 1));
        book.paint(1, 0, 1);
        Checks.same("the sale is kept", 100, book.of(1, 2));
    }

    private static void valueOfCracked() {
        AtelierBook book = withPictures(2);
        book.sell(0, 99999);
        book.damp(1, 0);
        book.lend(0, 1, 100);
        book.pass(9);
        Checks.same("nine times 4999 less", 55008, book.of(0, 2));
        Checks.same("the other has no crack", 99999, book.of(1, 2));
        book.pass(11);
        Checks.same("what is rounded down stays", 19, book.of(0, 2));
        book.pass(1);
        Checks.same("not below 0", 0, book.of(0, 2));
        book.pass(79);
        Checks.same("lent with 100 cracks", 100, book.of(0, 1));
        Checks.same("a price below 20 loses nothing", 19, book.sell(0, 19));
    }

    private static void pass() {
        AtelierBook book = withPictures(1);
        book.lend(0, 0, 5);
        for (int bad : new int[] {FEWEST, -1, 0, 101, MOST}) {
            Checks.refused("days " + bad, Checks.ARGUMENT, book, () -> book.pass(bad));
        }
        Checks.same("a day", 1, book.pass(1));
        Checks.same("four yet", 4, book.of(0, 5));
        Checks.same("three days", 4, book.pass(3));
        Checks.same("one yet", 1, book.of(0, 5));
        Checks.same("still there", 0, book.of(0, 4));
        Checks.same("the last day", 5, book.pass(1));
        Checks.same("none yet", 0, book.of(0, 5));
        Checks.same("back", AtelierBook.NONE, book.of(0, 4));
        Checks.same("most days", 105, book.pass(100));
    }

    private static void passBeyondLoan() {
        AtelierBook book = withPictures(2);
        book.damp(0, 80);
        book.lend(0, 0, 5);
        book.lend(1, 0, 7);
        Checks.same("beyond both", 100, book.pass(100));
        Checks.same("cracks while lent", 5, book.of(0, 1));
        Checks.same("cracks of the longer loan", 7, book.of(1, 1));
        Checks.same("paid while lent", 12, book.paid(0));
        Checks.same("at home", AtelierBook.NONE, book.of(0, 4));
    }

    private static void lastDay() {
        AtelierBook book = withPictures(1);
        for (int day = 100; day < 5000; day += 100) {
            Checks.same("day", day, book.pass(100));
        }
        Checks.same("near the end", 4999, book.pass(99));
        book.lend(0, 0, 9);
        Checks.refused("above the last day", Checks.STATE, book, () -> book.pass(2));
        Checks.refused("days go first", Checks.ARGUMENT, book, () -> book.pass(101));
        Checks.same("the last day", 5000, book.pass(1));
        Checks.refused("after the last day", Checks.STATE, book, () -> book.pass(1));
    }

    /** Pictures with a layer of pigment 0 each, and pots 0 and 1 of pigments 0 and 1. */
    private static AtelierBook withPictures(int pictures) {
        AtelierBook book = new AtelierBook();
        for (int number = 0; number < 2; number++) {
            book.pigment(10, 20, 30);
            book.tube(number, 1000);
            book.pot();
            book.squeeze(number, number, 500);
        }
        for (int picture = 0; picture < pictures; picture++) {
            book.picture();
            book.paint(picture, 0, 10);
        }
        return book;
    }
}
