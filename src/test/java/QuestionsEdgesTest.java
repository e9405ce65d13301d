/** The boundary cases of promises 15 to 22, sentence by sentence. */
public final class QuestionsEdgesTest {
    private static final Class<? extends RuntimeException> INDEX = Checks.INDEX;
    private static final Class<? extends RuntimeException> ARGUMENT = Checks.ARGUMENT;

    private static final int NONE = AtelierBook.NONE;
    /** Two tubes with 70 and 30 grams yet, a pot with 30 and 20 of them, an empty pot, pictures. */
    private static final String SHOP = "pigment 200 100 50; pigment 0 0 0; tube 0 100;"
            + "tube 1 50; pot; pot; squeeze 0 0 30; squeeze 0 1 20; picture; picture;"
            + "paint 0 0 10";

    public static void main(String[] args) {
        leftOfNoTube();
        leftEmpty();
        hasOfNothing();
        hasOfAll();
        colourOfNoPot();
        colourRange();
        colourOfEmpty();
        ofNoPicture();
        ofRange();
        ofBare();
        ofBareBesideFull();
        ofHome();
        layerOfNothing();
        layerFull();
        whereOfNoTube();
        whereRange();
        recipeRange();
        recipeOfNone();
        paidOfNoHouse();
        paidAtFirst();
        fullShop();
        Checks.end("QuestionsEdgesTest");
    }

    private static void leftOfNoTube() {
        Run.of("Throws `IndexOutOfBoundsException` if there is no such tube", SHOP)
                .beyond(INDEX, "left #", -1, 2)
                .refused(INDEX, "left 12")
                .dues("left", 0, 1, "70 30");
    }

    private static void leftEmpty() {
        Run.of("Returns what is left in a tube.", SHOP + "; squeeze 1 0 69").due("left 0", 1)
                .then("squeeze 1 0 1").due("left 0", 0)
                .then("scrape 1").due("left 0", 0);
    }

    private static void hasOfNothing() {
        Run.of("Throws `IndexOutOfBoundsException` if there is no such pot or tube, but for NONE",
                SHOP)
                .beyond(INDEX, "has # 0", -1, 2)
                .beyond(INDEX, "has # -1", -1, 2)
                .beyond(INDEX, "has 0 #", -2, 2)
                .refused(INDEX, "has 10 0", "has 0 12", "has -1 -1", "has 10 -1")
                .due("has 0 -1", 40);
    }

    private static void hasOfAll() {
        Run.of("the tube of which it has that; NONE for all", "pot").due("has 0 -1", 0)
                .refused(INDEX, "has 0 0");
        Run.of("the tube of which it has that; NONE for all", SHOP)
                .dues("has 0", -1, 1, "40 24 16")
                .dues("has 1", -1, 1, "0 0 0");
    }

    private static void colourOfNoPot() {
        Run.of("Throws `IndexOutOfBoundsException` if there is no such pot", SHOP)
                .beyond(INDEX, "colour # 0", -1, 2)
                .beyond(INDEX, "colour # 3", -1, 10)
                .refused(INDEX, "colour -1 -1");
    }

    private static void colourRange() {
        Run.of("Throws `IllegalArgumentException` if what is out of range", SHOP)
                .beyond(ARGUMENT, "colour 0 #", -1, 3)
                .beyond(ARGUMENT, "colour 1 #", -1, 3)
                .dues("colour 0", 0, 2, "120 60 30");
    }

    private static void colourOfEmpty() {
        Run.of("Returns the number; NONE of an empty pot.", SHOP)
                .dues("colour 1", 0, 2, "-1 -1 -1")
                .then("pour 0 1 40").dues("colour 0", 0, 2, "-1 -1 -1")
                .then("paint 0 1 40").dues("colour 1", 0, 2, "-1 -1 -1")
                .then("squeeze 0 1 1").dues("colour 0", 0, 2, "0 0 0")
                .then("scrape 0").dues("colour 0", 0, 2, "-1 -1 -1");
    }

    private static void ofNoPicture() {
        Run.of("Throws `IndexOutOfBoundsException` if there is no such picture", SHOP)
                .beyond(INDEX, "of # 0", -1, 2)
                .beyond(INDEX, "of # 9", -1, 8)
                .refused(INDEX, "of -1 -1");
    }

    private static void ofRange() {
        Run.of("Throws `IllegalArgumentException` if what is out of range", SHOP)
                .beyond(ARGUMENT, "of 0 #", -1, 9)
                .beyond(ARGUMENT, "of 1 #", -1, 9)
                .dues("of 0", 0, 8, "1 0 0 0 -1 0 120 60 30");
    }

    private static void ofBare() {
        Run.of("3 the main pigment of its uppermost layer, NONE without one", SHOP)
                .due("of 1 3", NONE).due("of 0 3", 0)
                .then("clean 0 1").due("of 0 3", NONE);
        Run.of("6 to 8 red, green and blue of its look, NONE without a layer", SHOP)
                .dues("of 1", 6, 8, "-1 -1 -1")
                .then("clean 0 1").dues("of 0", 6, 8, "-1 -1 -1")
                .then("squeeze 1 1 1; paint 0 1 1").dues("of 0", 6, 8, "0 0 0");
        Run.of("0 how many layers", SHOP).due("of 1 0", 0).due("of 0 0", 1)
                .times(11, "paint 0 0 1").due("of 0 0", 12)
                .then("clean 0 12").due("of 0 0", 0);
    }

    /** A picture without a layer shows neither the pots nor the layers of the picture before it. */
    private static void ofBareBesideFull() {
        Run.of("NONE without a layer", "pigment 9 9 9; tube 0 500").times(10, "pot")
                .then("squeeze 9 0 100; picture; picture")
                .dues("of 0", 0, 8, "0 0 0 -1 -1 0 -1 -1 -1")
                .times(12, "paint 0 9 1")
                .dues("of 1", 0, 8, "0 0 0 -1 -1 0 -1 -1 -1")
                .then("sell 0 40").due("of 1 2", 0)
                .then("clean 0 12").dues("of 0", 0, 8, "0 0 0 -1 -1 0 -1 -1 -1");
    }

    private static void ofHome() {
        Run.of("4 the house to which it is lent, NONE, 5 for how many days yet, 0 if it is not",
                SHOP)
                .dues("of 0", 4, 5, "-1 0")
                .then("lend 0 0 2").dues("of 0", 4, 5, "0 2")
                .then("pass 1").dues("of 0", 4, 5, "0 1")
                .then("pass 1").dues("of 0", 4, 5, "-1 0")
                .then("lend 0 3 100").dues("of 0", 4, 5, "3 100")
                .then("pass 99").dues("of 0", 4, 5, "3 1")
                .then("pass 2").dues("of 0", 4, 5, "-1 0");
    }

    private static void layerOfNothing() {
        Run.of("Throws `IndexOutOfBoundsException` if there is no such picture, layer or tube",
                SHOP)
                .beyond(INDEX, "layer # 0 0", -1, 2)
                .beyond(INDEX, "layer 0 # 0", -1, 1)
                .beyond(INDEX, "layer 0 0 #", -1, 2)
                .beyond(INDEX, "layer 1 # 0", -1, 0)
                .refused(INDEX, "layer 8 0 0", "layer 0 12 0", "layer 0 0 12", "layer -1 -1 -1")
                .due("layer 0 0 0", 6).due("layer 0 0 1", 4);
        Run.of("`layer`: 0 for the lowest one", SHOP + "; squeeze 1 1 9; paint 0 1 9")
                .dues("layer 0 0", 0, 1, "6 4")
                .dues("layer 0 1", 0, 1, "0 9")
                .refused(INDEX, "layer 0 2 0")
                .then("clean 0 1")
                .refused(INDEX, "layer 0 1 0")
                .dues("layer 0 0", 0, 1, "6 4");
    }

    /** Beyond a full picture's last layer the next picture's first one must not show. */
    private static void layerFull() {
        Run.of("there is no such picture, layer or tube", SHOP + "; paint 1 0 5")
                .times(11, "paint 0 0 1")
                .refused(INDEX, "layer 0 12 0", "layer 0 13 0", "layer 1 -1 0", "layer 1 -12 0")
                .due("layer 0 11 0", 0).due("layer 0 11 1", 1).due("layer 1 0 0", 3);
    }

    private static void whereOfNoTube() {
        Run.of("Throws `IndexOutOfBoundsException` if there is no such tube", SHOP)
                .beyond(INDEX, "where # 0", -1, 2)
                .beyond(INDEX, "where # 4", -1, 12)
                .refused(INDEX, "where -1 -1");
    }

    private static void whereRange() {
        Run.of("Throws `IllegalArgumentException` if what is out of range", SHOP)
                .beyond(ARGUMENT, "where 0 #", -1, 4)
                .dues("where 0", 0, 3, "70 24 6 0")
                .dues("where 1", 0, 3, "30 16 4 0")
                .then("scrape 0; clean 0 1; squeeze 1 0 70")
                .dues("where 0", 0, 3, "0 70 0 30")
                .dues("where 1", 0, 3, "30 0 0 20");
    }

    private static void recipeRange() {
        Run.of("Throws `IllegalArgumentException` if red, green or blue is out of range", SHOP)
                .beyond(ARGUMENT, "recipe # 0 0", -1, 256)
                .beyond(ARGUMENT, "recipe 0 # 0", -1, 256)
                .beyond(ARGUMENT, "recipe 0 0 #", -1, 256)
                .due("recipe 0 0 0", 10).due("recipe 255 255 255", 0);
        Run.of("Throws `IllegalArgumentException` if red, green or blue is out of range", "")
                .beyond(ARGUMENT, "recipe # 0 0", -1, 256)
                .beyond(ARGUMENT, "recipe 0 # 0", -1, 256)
                .beyond(ARGUMENT, "recipe 0 0 #", -1, 256);
    }

    private static void recipeOfNone() {
        String sentence = "NONE without tubes with grams left";
        Run.of(sentence, "").due("recipe 0 0 0", NONE).due("recipe 255 255 255", NONE);
        Run.of(sentence, "pigment 0 0 0; pot; picture").due("recipe 0 0 0", NONE);
        Run.of(sentence, SHOP + "; squeeze 1 1 30").due("recipe 0 0 0", 0)
                .then("squeeze 1 0 69").due("recipe 0 0 0", 0)
                .then("squeeze 1 0 1").due("recipe 0 0 0", NONE).due("recipe 200 100 50", NONE)
                .then("tube 1 1").due("recipe 255 255 255", 2020);
    }

    private static void paidOfNoHouse() {
        Run.of("Throws `IndexOutOfBoundsException` if there is no such house", SHOP)
                .beyond(INDEX, "paid #", -1, 4);
    }

    private static void paidAtFirst() {
        Run.of("Returns all that a house has paid.", SHOP).dues("paid", 0, 3, "0 0 0 0")
                .then("sell 0 100; lend 0 0 1; lend 1 3 3").dues("paid", 0, 3, "0 0 0 0")
                .then("pass 1").dues("paid", 0, 3, "2 0 0 1")
                .then("pass 100").dues("paid", 0, 3, "2 0 0 3");
    }

    /** With as many of all as there can be, no number beyond the last one shows a thing. */
    private static void fullShop() {
        Run run = Run.of("there is no such pigment, tube, pot, picture, layer or house.", "");
        for (int number = 0; number < 6; number++) {
            run.then("pigment 250 240 230");
        }
        for (int number = 0; number < 12; number++) {
            run.then("tube 5 1000");
        }
        for (int number = 0; number < 10; number++) {
            run.then("pot; squeeze " + number + " 11 100; squeeze " + number + " 0 20");
        }
        for (int number = 0; number < 8; number++) {
            run.then("picture").times(12, "paint " + number + " " + number + " 6");
        }
        run.beyond(INDEX, "left #", -1, 12).beyond(INDEX, "where # 1", -1, 12)
                .beyond(INDEX, "has # 0", -1, 10).beyond(INDEX, "has 0 #", -2, 12)
                .beyond(INDEX, "has 9 #", -2, 12).beyond(INDEX, "colour # 0", -1, 10)
                .beyond(INDEX, "of # 0", -1, 8).beyond(INDEX, "layer # 0 0", -1, 8)
                .beyond(INDEX, "layer 0 # 0", -1, 12).beyond(INDEX, "layer 7 # 0", -1, 12)
                .beyond(INDEX, "layer 7 11 #", -1, 12).beyond(INDEX, "layer 0 0 #", -1, 12)
                .beyond(ARGUMENT, "colour 9 #", -1, 3).beyond(ARGUMENT, "of 7 #", -1, 9)
                .beyond(ARGUMENT, "where 11 #", -1, 4);
        run.dues("layer 7 11", 0, 1, "1 0").due("layer 7 11 11", 5)
                .dues("where 11", 0, 3, "0 520 480 0")
                .dues("has 9", -1, 1, "120 20 0").due("has 9 11", 100)
                .dues("of 7", 0, 8, "12 0 0 5 -1 0 250 240 230");
    }
}
