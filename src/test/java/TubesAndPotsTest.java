/** Promises 1 to 7: a new object, pigment, tube, pot, squeeze, pour, scrape. */
public final class TubesAndPotsTest {
    private static final Class<? extends RuntimeException> INDEX = Checks.INDEX;
    private static final Class<? extends RuntimeException> ARGUMENT = Checks.ARGUMENT;
    private static final Class<? extends RuntimeException> STATE = Checks.STATE;

    private static final String TWO_PIGMENTS = "pigment 0 0 0; pigment 10 20 30;";

    public static void main(String[] args) {
        newObject();
        pigment();
        tube();
        pot();
        squeeze();
        pour();
        pourMost();
        pourByTubes();
        scrape();
        Checks.end("TubesAndPotsTest");
    }

    private static void newObject() {
        Run.of("a new object", "")
                .refused(INDEX, "left 0", "tube 0 1", "scrape 0", "of 0 0")
                .due("recipe 0 0 0", AtelierBook.NONE)
                .dues("paid", 0, 3, "0 0 0 0")
                .due("damp 0 50", 50).due("damp 1 50", 50)
                .due("damp 2 50", 50).due("damp 3 50", 50)
                .due("pass 1", 1);
        Run.of("each book stands alone", "").due("pass 1", 1);
    }

    private static void pigment() {
        Run.of("Tells a pigment.", "")
                .beyond(ARGUMENT, "pigment # 0 0", -1, 256)
                .beyond(ARGUMENT, "pigment 0 # 0", -1, 256)
                .beyond(ARGUMENT, "pigment 0 0 #", -1, 256)
                .due("pigment 0 0 0", 0)
                .due("pigment 255 255 255", 1)
                .due("pigment 255 255 255", 2)
                .due("pigment 30 60 90", 3)
                .due("pigment 40 80 120", 4)
                .due("pigment 50 100 150", 5)
                .refused(STATE, "pigment 1 2 3")
                .refused(ARGUMENT, "pigment 1 2 256")
                .due("tube 5 1", 0)
                .then("pot; squeeze 0 0 1")
                .dues("colour 0", 0, 2, "50 100 150");
    }

    private static void tube() {
        Run run = Run.of("Buys a tube.", "pigment 1 2 3")
                .beyond(INDEX, "tube # 1", -1, 1).refused(INDEX, "tube 6 1")
                .beyond(INDEX, "tube # 0", -1, 1).refused(INDEX, "tube 6 0")
                .beyond(ARGUMENT, "tube 0 #", 0, 1001).refused(ARGUMENT, "tube 0 -1")
                .due("tube 0 1", 0)
                .due("tube 0 1000", 1)
                .dues("left", 0, 1, "1 1000");
        for (int number = 2; number < 12; number++) {
            run.due("tube 0 " + number, number);
        }
        run.refused(STATE, "tube 0 1").refused(INDEX, "tube 1 1").refused(ARGUMENT, "tube 0 0");
    }

    private static void pot() {
        Run run = Run.of("Sets up a pot.", "");
        for (int number = 0; number < 10; number++) {
            run.due("pot", number).due("has " + number + " -1", 0);
        }
        run.refused(STATE, "pot");
    }

    private static void squeeze() {
        Run.of("Squeezes a tube into a pot.", TWO_PIGMENTS + "tube 0 1000; tube 1 30; pot; pot")
                .beyond(INDEX, "squeeze # 0 1", -1, 2).refused(INDEX, "squeeze 10 0 1")
                .beyond(INDEX, "squeeze 0 # 1", -1, 2).refused(INDEX, "squeeze 0 10 1")
                .beyond(INDEX, "squeeze # 0 0", -1, 2).refused(INDEX, "squeeze 10 0 0")
                .beyond(INDEX, "squeeze 0 # 0", -1, 2).refused(INDEX, "squeeze 0 10 0")
                .beyond(ARGUMENT, "squeeze 0 1 #", 0, 1001).refused(ARGUMENT, "squeeze 0 1 -1")
                .refused(STATE, "squeeze 0 1 31")
                .due("squeeze 1 1 10", 20)
                .refused(STATE, "squeeze 1 1 21")
                .due("squeeze 1 1 20", 0)
                .refused(STATE, "squeeze 1 1 1")
                .due("squeeze 0 0 1000", 0)
                .dues("has 1", -1, 1, "30 0 30")
                .dues("has 0", -1, 1, "1000 1000 0");
    }

    private static void pour() {
        Run.of("Pours of a pot into another one.", TWO_PIGMENTS + "tube 0 100; tube 1 50;"
                + "pot; pot; squeeze 0 0 30; squeeze 0 1 20")
                .beyond(INDEX, "pour # 0 1", -1, 2).refused(INDEX, "pour 10 0 1")
                .beyond(INDEX, "pour 0 # 1", -1, 2).refused(INDEX, "pour 0 10 1")
                .beyond(INDEX, "pour # # 0", -1, 2).refused(INDEX, "pour 10 10 0")
                .beyond(ARGUMENT, "pour 0 1 #", 0, 12001).refused(ARGUMENT, "pour 0 1 -1")
                .refused(ARGUMENT, "pour 0 0 1", "pour 1 1 1")
                .refused(STATE, "pour 0 1 51", "pour 0 1 12000", "pour 1 0 1")
                .due("pour 0 1 7", 7)
                .dues("has 1", 0, 1, "4 3")
                .dues("has 0", 0, 1, "26 17")
                .due("pour 0 1 43", 50)
                .due("has 0 -1", 0)
                .due("pour 1 0 50", 50)
                .due("has 0 0", 30)
                .due("left 0", 70);
    }

    private static void pourMost() {
        Run run = Run.of("`grams`: 1 to 12000", "pigment 255 255 255; pot; pot");
        for (int tube = 0; tube < 12; tube++) {
            run.then("tube 0 1000; squeeze 0 " + tube + " 1000");
        }
        run.due("colour 0 0", 255)
                .due("pour 0 1 12000", 12000)
                .due("pour 1 0 11999", 11999)
                .due("has 1 0", 1);
    }

    /** Of three grams alike, the single grams come of the last tube, then of the others. */
    private static void pourByTubes() {
        Run.of("to take of the tubes, by their numbers", TWO_PIGMENTS + "tube 0 3; tube 1 3;"
                + "tube 1 3; pot; pot; squeeze 0 0 3; squeeze 0 1 3; squeeze 0 2 3")
                .then("pour 0 1 1").dues("has 1", 0, 2, "0 0 1")
                .then("pour 0 1 1").dues("has 1", 0, 2, "0 0 2")
                .then("pour 0 1 4").dues("has 1", 0, 2, "1 2 3").dues("has 0", 0, 2, "2 1 0")
                .then("pour 0 1 2").dues("has 1", 0, 2, "2 3 3");
    }

    private static void scrape() {
        Run.of("Scrapes a pot out, which is empty then.",
                TWO_PIGMENTS + "tube 0 100; tube 1 50; pot")
                .beyond(INDEX, "scrape #", -1, 1).refused(INDEX, "scrape 10")
                .due("scrape 0", 0)
                .then("squeeze 0 0 10; squeeze 0 1 20")
                .due("scrape 0", 30)
                .due("has 0 -1", 0)
                .due("scrape 0", 0)
                .due("where 0 3", 10).due("where 1 3", 20)
                .then("squeeze 0 0 5")
                .due("scrape 0", 5)
                .due("where 0 3", 15);
    }
}
