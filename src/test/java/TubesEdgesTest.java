/** The boundary cases of promises 1 to 7, sentence by sentence. */
public final class TubesEdgesTest {
    private static final Class<? extends RuntimeException> INDEX = Checks.INDEX;
    private static final Class<? extends RuntimeException> ARGUMENT = Checks.ARGUMENT;
    private static final Class<? extends RuntimeException> STATE = Checks.STATE;

    /** A pigment, a tube of 50 grams with 20 yet, and two pots, one with 30 grams, one empty. */
    private static final String SHOP = "pigment 200 100 50; tube 0 50; pot; pot; squeeze 0 0 30";
    private static final String SIX_PIGMENTS = "pigment 0 0 0; pigment 10 20 30;"
            + "pigment 20 30 40; pigment 30 40 50; pigment 40 50 60; pigment 255 255 255";

    public static void main(String[] args) {
        newObject();
        pigmentRange();
        pigmentsFull();
        tubeOfNoPigment();
        tubeRange();
        tubesFull();
        potsFull();
        squeezeOfNothing();
        squeezeRange();
        squeezeTooMuch();
        squeezeOrder();
        pourOfNoPot();
        pourIntoItself();
        pourRange();
        pourTooMuch();
        pourOrder();
        pourMost();
        scrapeOfNoPot();
        scrapeEmpty();
        Checks.end("TubesEdgesTest");
    }

    private static void newObject() {
        Run.of("Opens a shop without pigments and pictures, on the day 0.", "")
                .refused(INDEX, "tube 0 1", "left 0", "where 0 0", "has 0 -1", "colour 0 0",
                        "scrape 0", "squeeze 0 0 1", "pour 0 1 1", "of 0 0", "layer 0 0 0",
                        "paint 0 0 1", "clean 0 1", "lend 0 0 1", "sell 0 1")
                .due("recipe 0 0 0", AtelierBook.NONE)
                .dues("paid", 0, 3, "0 0 0 0")
                .due("pass 1", 1);
        Run.of("Returns its number.", "").due("pigment 0 0 0", 0).due("tube 0 1", 0)
                .due("pot", 0).due("picture", 0);
    }

    private static void pigmentRange() {
        String sentence = "Throws `IllegalArgumentException` if red, green or blue is out of range";
        Run.of(sentence, "")
                .beyond(ARGUMENT, "pigment # 0 0", -1, 256)
                .beyond(ARGUMENT, "pigment 0 # 0", -1, 256)
                .beyond(ARGUMENT, "pigment 0 0 #", -1, 256)
                .due("pigment 0 0 0", 0).due("pigment 255 255 255", 1)
                .due("pigment 255 0 0", 2).due("pigment 0 255 0", 3).due("pigment 0 0 255", 4)
                .then("tube 0 1; tube 1 1; pot; squeeze 0 0 1")
                .dues("colour 0", 0, 2, "0 0 0")
                .then("scrape 0; squeeze 0 1 1")
                .dues("colour 0", 0, 2, "255 255 255");
    }

    private static void pigmentsFull() {
        Run.of("Throws `IllegalStateException` if there are 6", SIX_PIGMENTS)
                .refused(STATE, "pigment 0 0 0", "pigment 255 255 255")
                .refused(ARGUMENT, "pigment 256 0 0", "pigment 0 -1 0", "pigment 0 0 256")
                .due("tube 5 7", 0);
        Run.of("Pigments are numbered from 0, at most 6", SIX_PIGMENTS.replaceFirst(".*?;", ""))
                .refused(INDEX, "tube 5 1")
                .due("pigment 1 1 1", 5)
                .due("tube 5 1", 0);
    }

    private static void tubeOfNoPigment() {
        Run.of("Throws `IndexOutOfBoundsException` if there is no such pigment",
                "pigment 1 2 3; pigment 4 5 6")
                .beyond(INDEX, "tube # 1", -1, 2)
                .beyond(INDEX, "tube # 0", -1, 2)
                .beyond(INDEX, "tube # 1001", -1, 6)
                .due("tube 1 1", 0);
        Run.of("there is no such pigment", SIX_PIGMENTS).beyond(INDEX, "tube # 1", -1, 6);
    }

    private static void tubeRange() {
        Run.of("`grams`: 1 to 1000", "pigment 1 2 3")
                .beyond(ARGUMENT, "tube 0 #", 0, 1001)
                .refused(ARGUMENT, "tube 0 -1")
                .due("tube 0 1", 0).due("tube 0 1000", 1)
                .dues("left", 0, 1, "1 1000");
    }

    private static void tubesFull() {
        Run.of("Throws `IllegalStateException` if there are 12", "pigment 1 2 3")
                .times(11, "tube 0 5")
                .refused(INDEX, "left 11")
                .due("tube 0 6", 11)
                .refused(STATE, "tube 0 1", "tube 0 1000")
                .refused(ARGUMENT, "tube 0 0", "tube 0 1001")
                .refused(INDEX, "tube 1 1", "tube -1 0", "left 12")
                .due("left 11", 6);
    }

    private static void potsFull() {
        Run.of("Throws `IllegalStateException` if there are 10", "").times(9, "pot")
                .refused(INDEX, "has 9 -1")
                .due("pot", 9)
                .refused(STATE, "pot", "pot")
                .refused(INDEX, "has 10 -1");
        Run.of("Pots are numbered from 0, at most 10, empty at first", "")
                .times(10, "pot")
                .then("pigment 9 9 9; tube 0 9")
                .due("has 0 -1", 0).due("has 9 -1", 0).due("has 9 0", 0)
                .due("colour 9 0", AtelierBook.NONE)
                .due("squeeze 9 0 4", 5).due("has 9 -1", 4).due("has 8 -1", 0);
    }

    private static void squeezeOfNothing() {
        Run.of("Throws `IndexOutOfBoundsException` if there is no such pot or tube", SHOP)
                .beyond(INDEX, "squeeze # 0 1", -1, 2)
                .beyond(INDEX, "squeeze 0 # 1", -1, 1)
                .beyond(INDEX, "squeeze 0 # 1001", -1, 12)
                .beyond(INDEX, "squeeze # 0 0", -1, 10);
    }

    private static void squeezeRange() {
        Run.of("`grams`: 1 to 1000", SHOP + "; tube 0 1000; tube 0 1000")
                .beyond(ARGUMENT, "squeeze 1 1 #", 0, 1001)
                .refused(ARGUMENT, "squeeze 1 1 -1")
                .due("squeeze 1 1 1000", 0)
                .due("squeeze 1 2 1", 999)
                .due("has 1 -1", 1001);
    }

    private static void squeezeTooMuch() {
        Run.of("Throws `IllegalStateException` if the tube has not so much", SHOP)
                .refused(STATE, "squeeze 0 0 21", "squeeze 1 0 21", "squeeze 0 0 1000")
                .due("squeeze 1 0 20", 0)
                .refused(STATE, "squeeze 1 0 1", "squeeze 0 0 1000")
                .due("has 1 0", 20).due("left 0", 0);
        Run.of("Returns what is left in the tube.", SHOP)
                .due("squeeze 0 0 1", 19).due("squeeze 0 0 18", 1).due("squeeze 0 0 1", 0)
                .due("has 0 0", 50);
    }

    private static void squeezeOrder() {
        Run.of("the one that is named first in the throws clause is thrown", SHOP)
                .refused(STATE, "squeeze 0 0 21")
                .refused(ARGUMENT, "squeeze 0 0 1001", "squeeze 0 0 0")
                .refused(INDEX, "squeeze 2 0 21", "squeeze 0 1 21", "squeeze 2 0 1001",
                        "squeeze 0 1 1001", "squeeze 2 1 0", "squeeze -1 -1 -1");
    }

    private static void pourOfNoPot() {
        Run.of("Throws `IndexOutOfBoundsException` if there is no such pot, of either", SHOP)
                .beyond(INDEX, "pour # 1 1", -1, 2)
                .beyond(INDEX, "pour 0 # 1", -1, 2)
                .beyond(INDEX, "pour # # 1", -1, 2);
        Run.of("there is no such pot", SHOP).times(8, "pot")
                .beyond(INDEX, "pour 0 # 1", -1, 10)
                .beyond(INDEX, "pour # 0 1", -1, 10)
                .due("pour 0 9 1", 1);
    }

    private static void pourIntoItself() {
        Run.of("Throws `IllegalArgumentException` if both are the same, or grams is out of range",
                SHOP)
                .refused(ARGUMENT, "pour 0 0 1", "pour 0 0 30", "pour 0 0 31", "pour 1 1 1",
                        "pour 0 0 0", "pour 1 1 12001")
                .due("has 0 -1", 30);
    }

    private static void pourRange() {
        Run.of("`grams`: 1 to 12000", SHOP)
                .beyond(ARGUMENT, "pour 0 1 #", 0, 12001)
                .beyond(ARGUMENT, "pour 1 0 #", 0, 12001)
                .refused(ARGUMENT, "pour 0 1 -1")
                .refused(STATE, "pour 0 1 12000")
                .due("pour 0 1 1", 1);
    }

    private static void pourTooMuch() {
        Run.of("Throws `IllegalStateException` if the pot has not so much", SHOP)
                .refused(STATE, "pour 0 1 31", "pour 1 0 1", "pour 1 0 12000")
                .due("pour 0 1 30", 30)
                .due("has 0 -1", 0)
                .refused(STATE, "pour 0 1 1");
        Run.of("Returns what the other one has in all then.", SHOP + "; squeeze 1 0 5")
                .due("pour 0 1 1", 6).due("pour 1 0 6", 35).due("pour 0 1 35", 35);
    }

    private static void pourOrder() {
        Run.of("the one that is named first in the throws clause is thrown", SHOP)
                .refused(INDEX, "pour 2 2 1", "pour 2 0 0", "pour 0 2 12001", "pour -1 -1 0",
                        "pour 1 2 1", "pour 0 -1 31")
                .refused(ARGUMENT, "pour 1 0 0", "pour 1 1 1", "pour 0 0 31", "pour 1 0 12001");
    }

    /** All that twelve tubes can hold, in one pot: the products of the sharing are largest here. */
    private static void pourMost() {
        Run run = Run.of("That is g in all.", "pigment 255 255 255; pot; pot");
        for (int tube = 0; tube < 12; tube++) {
            run.then("tube 0 1000; squeeze 0 " + tube + " 1000");
        }
        run.due("has 0 -1", 12000).dues("colour 0", 0, 2, "255 255 255")
                .refused(ARGUMENT, "pour 0 1 12001")
                .due("pour 0 1 11999", 11999)
                .dues("has 1", -1, 11, "11999 999 1000 1000 1000 1000 1000 1000 1000 1000 1000"
                        + " 1000 1000")
                .dues("has 0", -1, 11, "1 1 0 0 0 0 0 0 0 0 0 0 0")
                .due("pour 0 1 1", 12000)
                .due("pour 1 0 12000", 12000)
                .due("has 1 -1", 0)
                .due("scrape 0", 12000);
    }

    private static void scrapeOfNoPot() {
        Run.of("Throws `IndexOutOfBoundsException` if there is no such pot", SHOP)
                .beyond(INDEX, "scrape #", -1, 2)
                .refused(INDEX, "scrape 10");
    }

    private static void scrapeEmpty() {
        Run.of("Scrapes a pot out, which is empty then.", SHOP)
                .unchanged("scrape 1")
                .due("scrape 1", 0)
                .due("scrape 0", 30).due("has 0 -1", 0).due("has 0 0", 0)
                .due("colour 0 0", AtelierBook.NONE)
                .unchanged("scrape 0")
                .due("scrape 0", 0)
                .refused(STATE, "pour 0 1 1")
                .due("where 0 3", 30).due("left 0", 20);
    }
}
