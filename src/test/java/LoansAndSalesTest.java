/** Promises 11 to 14: damp, lend, sell, pass; and what a picture is worth. */
public final class LoansAndSalesTest {
    private static final Class<? extends RuntimeException> INDEX = Checks.INDEX;
    private static final Class<? extends RuntimeException> ARGUMENT = Checks.ARGUMENT;
    private static final Class<? extends RuntimeException> STATE = Checks.STATE;

    private static final int NONE = AtelierBook.NONE;
    /** Two pots, the first one of pigment 0 and the second one of pigment 1. */
    private static final String POTS = "pigment 10 20 30; pigment 10 20 30; tube 0 1000;"
            + "tube 1 1000; pot; pot; squeeze 0 0 500; squeeze 1 1 500;";
    /** A picture with a layer of pigment 0, then two and three of them. */
    private static final String ONE = POTS + "picture; paint 0 0 10;";
    private static final String TWO = ONE + "picture; paint 1 0 10;";
    private static final String THREE = TWO + "picture; paint 2 0 10;";

    public static void main(String[] args) {
        damp();
        dampAndCracks();
        dampChangesDuringLoan();
        lend();
        lendRefused();
        lendCosts();
        cracksKeepHome();
        sell();
        sellRefused();
        valueOfAlike();
        valueOfBarePicture();
        valueOfCracked();
        pass();
        passBeyondLoan();
        lastDay();
        Checks.end("LoansAndSalesTest");
    }

    private static void damp() {
        Run run = Run.of("Sets the damp of a house.", "")
                .beyond(INDEX, "damp # 50", -1, 4)
                .beyond(INDEX, "damp # 101", -1, 4)
                .beyond(ARGUMENT, "damp 0 #", -1, 101);
        for (int house = 0; house < 4; house++) {
            run.due("damp " + house + " 0", 50)
                    .due("damp " + house + " 100", 0)
                    .due("damp " + house + " " + house, 100);
        }
        for (int house = 0; house < 4; house++) {
            run.due("damp " + house + " 50", house);
        }
    }

    private static void dampAndCracks() {
        int[] damps = {0, 39, 40, 50, 60, 61, 100};
        int[] cracks = {1, 1, 0, 0, 0, 1, 1};
        for (int i = 0; i < damps.length; i++) {
            Run.of("the damp of the house is more than 10 away from 50",
                    ONE + "damp 2 " + damps[i] + "; lend 0 2 1; pass 1")
                    .due("of 0 1", cracks[i])
                    .then("pass 1")
                    .due("of 0 1", cracks[i]);
        }
    }

    private static void dampChangesDuringLoan() {
        Run.of("With each day that passes a picture has a crack more", TWO + "lend 0 3 10;"
                + "lend 1 2 10; pass 2; damp 3 90; pass 3; damp 3 50; pass 5")
                .due("of 0 1", 3)
                .due("of 1 1", 0);
    }

    private static void lend() {
        Run.of("Lends a picture.", ONE)
                .due("lend 0 3 100", 1)
                .dues("of 0", 4, 5, "3 100")
                .refused(STATE, "lend 0 3 1")
                .refused(ARGUMENT, "lend 0 3 101")
                .refused(INDEX, "lend 0 4 1")
                .then("picture")
                .due("lend 1 0 1", 1)
                .dues("of 1", 4, 5, "0 1");
    }

    private static void lendRefused() {
        Run.of("Lends a picture.", ONE)
                .beyond(INDEX, "lend # 0 1", -1, 1).refused(INDEX, "lend 8 0 1")
                .beyond(INDEX, "lend # 0 0", -1, 1).refused(INDEX, "lend 8 0 0")
                .beyond(INDEX, "lend 0 # 1", -1, 4)
                .beyond(INDEX, "lend 0 # 0", -1, 4)
                .beyond(ARGUMENT, "lend 0 0 #", 0, 101).refused(ARGUMENT, "lend 0 0 -1")
                .dues("of 0", 4, 5, "-1 0");
    }

    private static void lendCosts() {
        Run.of("A loan costs the house, each day, a hundredth of the value that the picture had as"
                + " it was lent, and 1.", TWO + "sell 0 199")
                .due("lend 0 1 10", 2)
                .due("paid 1", 0)
                .then("pass 1").due("paid 1", 2)
                .then("sell 1 100000").due("of 0 2", 50099)
                .then("pass 4").due("paid 1", 10)
                .due("lend 1 1 2", 501)
                .then("pass 5").due("paid 1", 20 + 2 * 501)
                .due("lend 0 0 1", 501)
                .then("pass 1").due("paid 0", 501).due("paid 1", 20 + 2 * 501);
    }

    private static void cracksKeepHome() {
        Run.of("A picture with 10 cracks or more is not lent.",
                ONE + "damp 0 100; lend 0 0 9; pass 9")
                .due("lend 0 0 1", 1)
                .then("pass 1").due("of 0 1", 10)
                .refused(STATE, "lend 0 1 1")
                .refused(INDEX, "lend 0 4 1")
                .refused(ARGUMENT, "lend 0 1 0")
                .due("paint 0 0 1", 2)
                .due("sell 0 100", 50);
    }

    private static void sell() {
        Run.of("Tells a sale.", ONE)
                .due("sell 0 1", 1)
                .due("sell 0 100000", 100000)
                .due("sell 0 7", 7)
                .due("of 0 0", 1)
                .then("lend 0 0 1; pass 1")
                .due("sell 0 8", 8);
    }

    private static void sellRefused() {
        Run.of("Tells a sale.", ONE + "picture")
                .beyond(INDEX, "sell # 1", -1, 2).refused(INDEX, "sell 8 1")
                .beyond(INDEX, "sell # 0", -1, 2).refused(INDEX, "sell 8 0")
                .beyond(ARGUMENT, "sell 0 #", 0, 100001).refused(ARGUMENT, "sell 0 -1")
                .beyond(ARGUMENT, "sell 1 #", 0, 100001).refused(ARGUMENT, "sell 1 -1")
                .refused(STATE, "sell 1 1")
                .then("lend 0 0 1")
                .refused(STATE, "sell 0 1")
                .refused(ARGUMENT, "sell 0 0")
                .due("of 0 2", 0);
    }

    private static void valueOfAlike() {
        Run.of("the sum of the prices of the latest sale of each picture alike", THREE)
                .due("of 0 2", 0)
                .due("sell 0 1000", 1000).due("of 1 2", 1000)
                .due("sell 1 501", 750).due("of 2 2", 750)
                .then("paint 2 1 1").due("of 2 2", 0)
                .due("sell 2 90", 90)
                .then("paint 0 1 1").dues("of 0", 2, 3, "545 1").due("of 2 2", 545)
                .due("of 1 2", 501)
                .then("lend 2 0 1").due("of 0 2", 545)
                .then("clean 0 1").due("of 0 2", 750).due("of 2 2", 90);
    }

    private static void valueOfBarePicture() {
        Run.of("one without a layer is alike none", TWO + "sell 0 300; sell 1 100; clean 0 1")
                .due("of 0 2", 0).due("of 1 2", 100)
                .then("clean 1 1").due("of 1 2", 0)
                .due("lend 0 0 1", 1)
                .then("paint 1 0 1").due("of 1 2", 100);
    }

    private static void valueOfCracked() {
        Run.of("and for each crack less a twentieth of that, rounded down, but at least 0",
                TWO + "sell 0 99999; damp 1 0; lend 0 1 100")
                .then("pass 9").due("of 0 2", 99999 - 9 * 4999).due("of 1 2", 99999)
                .then("pass 11").due("of 0 2", 19)
                .then("pass 1").due("of 0 2", 0)
                .then("pass 79").due("of 0 1", 100)
                .due("sell 0 19", 19);
    }

    private static void pass() {
        Run.of("Lets days pass.", ONE + "lend 0 0 5")
                .beyond(ARGUMENT, "pass #", 0, 101).refused(ARGUMENT, "pass -1")
                .due("pass 1", 1).due("of 0 5", 4)
                .due("pass 3", 4).dues("of 0", 4, 5, "0 1")
                .due("pass 1", 5).dues("of 0", 4, 5, "-1 0")
                .due("pass 100", 105);
    }

    private static void passBeyondLoan() {
        Run.of("it is back when they have gone by", TWO + "damp 0 80; lend 0 0 5; lend 1 0 7")
                .due("pass 100", 100)
                .due("of 0 1", 5).due("of 1 1", 7)
                .due("paid 0", 12)
                .due("of 0 4", NONE).due("of 1 4", NONE);
    }

    private static void lastDay() {
        Run run = Run.of("if it would be above 5000", ONE);
        for (int day = 100; day < 5000; day += 100) {
            run.due("pass 100", day);
        }
        run.due("pass 99", 4999)
                .then("lend 0 0 9")
                .refused(STATE, "pass 2")
                .refused(ARGUMENT, "pass 101")
                .due("pass 1", 5000)
                .refused(STATE, "pass 1");
    }
}
