/** The boundary cases of promises 11 to 14, sentence by sentence. */
public final class LoansEdgesTest {
    private static final Class<? extends RuntimeException> INDEX = Checks.INDEX;
    private static final Class<? extends RuntimeException> ARGUMENT = Checks.ARGUMENT;
    private static final Class<? extends RuntimeException> STATE = Checks.STATE;

    /** A pot with paint, a picture with a layer of it, and one without a layer. */
    private static final String SHOP = "pigment 200 100 50; tube 0 500; pot; squeeze 0 0 400;"
            + "picture; paint 0 0 10; picture";

    public static void main(String[] args) {
        dampOfNoHouse();
        dampRange();
        dampOrder();
        lendOfNothing();
        lendRange();
        lendLent();
        lendCracked();
        lendBare();
        lendOrder();
        sellOfNoPicture();
        sellRange();
        sellLent();
        sellBare();
        sellOrder();
        passRange();
        passForAll();
        passLastDay();
        passOrder();
        Checks.end("LoansEdgesTest");
    }

    private static void dampOfNoHouse() {
        Run.of("Throws `IndexOutOfBoundsException` if there is no such house", "")
                .beyond(INDEX, "damp # 50", -1, 4)
                .due("damp 0 1", 50).due("damp 3 2", 50);
    }

    private static void dampRange() {
        Run.of("Throws `IllegalArgumentException` if damp is out of range", "damp 1 7")
                .beyond(ARGUMENT, "damp 1 #", -1, 101)
                .due("damp 1 0", 7).due("damp 1 100", 0).due("damp 1 100", 100)
                .due("damp 1 50", 100).due("damp 1 50", 50);
    }

    private static void dampOrder() {
        Run.of("the one that is named first in the throws clause is thrown", "")
                .refused(INDEX, "damp 4 101", "damp -1 -1", "damp 4 -1", "damp -1 101");
    }

    private static void lendOfNothing() {
        Run.of("Throws `IndexOutOfBoundsException` if there is no such picture or house", SHOP)
                .beyond(INDEX, "lend # 0 1", -1, 2)
                .beyond(INDEX, "lend 0 # 1", -1, 4)
                .refused(INDEX, "lend 8 0 1")
                .due("lend 0 0 1", 1).due("lend 1 3 1", 1);
    }

    private static void lendRange() {
        Run.of("`days`: 1 to 100", SHOP)
                .beyond(ARGUMENT, "lend 0 0 #", 0, 101)
                .refused(ARGUMENT, "lend 0 0 -1")
                .due("lend 0 0 1", 1).due("lend 1 0 100", 1)
                .due("of 0 5", 1).due("of 1 5", 100)
                .then("pass 1")
                .due("of 0 5", 0).due("of 1 5", 99)
                .then("pass 98")
                .due("of 1 5", 1).due("of 1 4", 0)
                .then("pass 1")
                .due("of 1 5", 0).due("of 1 4", AtelierBook.NONE)
                .due("paid 0", 101);
    }

    private static void lendLent() {
        Run.of("Throws `IllegalStateException` if it is lent, or has 10 cracks",
                SHOP + "; lend 0 1 2")
                .refused(STATE, "lend 0 1 1", "lend 0 2 100")
                .due("of 0 4", 1).due("of 0 5", 2)
                .then("pass 1")
                .refused(STATE, "lend 0 0 1")
                .then("pass 1")
                .due("lend 0 2 3", 1)
                .due("of 0 4", 2).due("of 0 5", 3);
    }

    private static void lendCracked() {
        Run.of("A picture with 10 cracks or more is not lent.",
                SHOP + "; damp 0 100; lend 0 0 9; pass 9")
                .due("of 0 1", 9)
                .due("lend 0 0 1", 1)
                .then("pass 1")
                .due("of 0 1", 10)
                .refused(STATE, "lend 0 0 1", "lend 0 1 100")
                .due("lend 1 0 1", 1);
        Run.of("A picture with 10 cracks or more is not lent.",
                SHOP + "; damp 0 100; lend 0 0 11; pass 11")
                .due("of 0 1", 11)
                .refused(STATE, "lend 0 0 1", "lend 0 1 1");
        Run.of("in each of which it is lent", SHOP + "; damp 0 100; lend 0 0 50; pass 30")
                .due("of 0 1", 30).due("of 0 4", 0).due("of 0 5", 20)
                .then("pass 20").due("of 0 1", 50).due("paid 0", 50);
    }

    private static void lendBare() {
        Run.of("A loan costs the house, each day, a hundredth of the value that the picture had"
                + " as it was lent, and 1.", SHOP)
                .due("of 1 2", 0).due("lend 1 2 1", 1);
    }

    private static void lendOrder() {
        Run.of("the one that is named first in the throws clause is thrown",
                SHOP + "; damp 0 100; lend 0 0 12; pass 11")
                .refused(INDEX, "lend 2 0 1", "lend 0 4 1", "lend 2 0 0", "lend 0 4 101",
                        "lend 2 4 0", "lend -1 -1 -1")
                .refused(ARGUMENT, "lend 0 0 0", "lend 0 0 101")
                .refused(STATE, "lend 0 0 1")
                .then("pass 1")
                .refused(INDEX, "lend 2 0 1", "lend 0 4 1", "lend 0 4 0")
                .refused(ARGUMENT, "lend 0 0 0", "lend 0 0 101")
                .refused(STATE, "lend 0 0 1");
    }

    private static void sellOfNoPicture() {
        Run.of("Throws `IndexOutOfBoundsException` if there is no such picture", SHOP)
                .beyond(INDEX, "sell # 1", -1, 2)
                .refused(INDEX, "sell 8 1");
    }

    private static void sellRange() {
        Run.of("`price`: 1 to 100000", SHOP + "; sell 0 30")
                .beyond(ARGUMENT, "sell 0 #", 0, 100001)
                .refused(ARGUMENT, "sell 0 -1")
                .due("of 0 2", 30)
                .due("sell 0 1", 1).due("sell 0 100000", 100000).due("of 0 2", 100000);
    }

    private static void sellLent() {
        Run.of("A picture may be sold at home", SHOP + "; sell 0 30; lend 0 1 2")
                .refused(STATE, "sell 0 1", "sell 0 100000")
                .then("pass 1")
                .refused(STATE, "sell 0 1")
                .then("pass 1")
                .due("sell 0 7", 7);
    }

    private static void sellBare() {
        Run.of("Throws `IllegalStateException` if it is lent, or has no layer", SHOP)
                .refused(STATE, "sell 1 1", "sell 1 100000")
                .then("paint 1 0 1")
                .due("sell 1 9", 9)
                .then("clean 1 1")
                .refused(STATE, "sell 1 1")
                .then("paint 1 0 1")
                .due("of 1 2", 9);
    }

    private static void sellOrder() {
        Run.of("the one that is named first in the throws clause is thrown", SHOP + "; lend 1 0 1")
                .refused(INDEX, "sell 2 1", "sell 2 0", "sell 2 100001", "sell -1 -1")
                .refused(ARGUMENT, "sell 1 0", "sell 1 100001")
                .refused(STATE, "sell 1 1");
    }

    private static void passRange() {
        Run.of("Throws `IllegalArgumentException` if days is out of range",
                SHOP + "; lend 0 0 9; pass 2")
                .beyond(ARGUMENT, "pass #", 0, 101)
                .refused(ARGUMENT, "pass -1")
                .due("pass 1", 3).due("pass 100", 103);
    }

    private static void passForAll() {
        Run run = Run.of("A picture is at home, or lent to a house for some days", SHOP)
                .times(6, "picture");
        for (int picture = 0; picture < 8; picture++) {
            run.then("lend " + picture + " " + picture / 2 + " " + (picture + 1));
        }
        run.due("pass 1", 1).due("of 0 4", AtelierBook.NONE).due("of 7 4", 3).due("of 7 5", 7)
                .dues("paid", 0, 3, "2 2 2 2")
                .due("pass 6", 7).due("of 6 4", AtelierBook.NONE).due("of 7 5", 1)
                .due("pass 100", 107).due("of 7 4", AtelierBook.NONE)
                .dues("paid", 0, 3, "3 7 11 15");
    }

    private static void passLastDay() {
        Run.of("Throws `IllegalStateException` if it would be above 5000", SHOP)
                .times(49, "pass 100")
                .due("pass 1", 4901)
                .then("lend 0 0 100")
                .refused(STATE, "pass 100")
                .due("pass 98", 4999)
                .refused(STATE, "pass 2", "pass 3", "pass 100")
                .due("of 0 5", 2).due("paid 0", 98)
                .due("pass 1", 5000)
                .refused(STATE, "pass 1", "pass 100")
                .due("of 0 5", 1).due("paid 0", 99);
        Run.of("Throws `IllegalStateException` if it would be above 5000", "")
                .times(49, "pass 100")
                .due("pass 100", 5000)
                .refused(STATE, "pass 1");
    }

    private static void passOrder() {
        Run.of("the one that is named first in the throws clause is thrown", "")
                .times(50, "pass 100")
                .beyond(ARGUMENT, "pass #", 0, 101)
                .refused(STATE, "pass 1", "pass 100");
    }
}
