/** Promises 15 to 22: left, has, colour, of, layer, where, recipe, paid. */
public final class QuestionsTest {
    private static final Class<? extends RuntimeException> INDEX = Checks.INDEX;
    private static final Class<? extends RuntimeException> ARGUMENT = Checks.ARGUMENT;

    private static final int NONE = AtelierBook.NONE;
    /** Three tubes of 10 grams; of two of them, 3 and 2 grams in the first of two pots. */
    private static final String SHOP = "pigment 255 133 1; pigment 0 0 100; tube 0 10; tube 1 10;"
            + "tube 1 10; pot; pot; squeeze 0 0 3; squeeze 0 1 2;";

    public static void main(String[] args) {
        left();
        has();
        colour();
        of();
        mainPigment();
        layer();
        where();
        recipe();
        recipeTies();
        recipeHalfway();
        recipeRoundsTheSum();
        paid();
        fullShop();
        Checks.end("QuestionsTest");
    }

    private static void left() {
        Run.of("Returns what is left in a tube.", SHOP)
                .beyond(INDEX, "left #", -1, 3).refused(INDEX, "left 12")
                .dues("left", 0, 2, "7 8 10")
                .then("squeeze 0 2 10").due("left 2", 0);
    }

    private static void has() {
        Run.of("Returns what a pot has.", SHOP)
                .beyond(INDEX, "has # 0", -1, 2).refused(INDEX, "has 10 0")
                .beyond(INDEX, "has # -1", -1, 2).refused(INDEX, "has 10 -1")
                .beyond(INDEX, "has 0 #", -2, 3).refused(INDEX, "has 0 12")
                .dues("has 0", -1, 2, "5 3 2 0")
                .dues("has 1", -1, 2, "0 0 0 0");
    }

    private static void colour() {
        Run.of("Returns the colour of a pot.", SHOP)
                .beyond(INDEX, "colour # 0", -1, 2).refused(INDEX, "colour 10 0")
                .beyond(INDEX, "colour # 3", -1, 2).refused(INDEX, "colour 10 3")
                .beyond(ARGUMENT, "colour 0 #", -1, 3)
                .beyond(ARGUMENT, "colour 1 #", -1, 3)
                .dues("colour 0", 0, 2, "153 79 40")
                .dues("colour 1", 0, 2, "-1 -1 -1");
    }

    private static void of() {
        Run.of("Tells something of a picture.", SHOP + "picture")
                .beyond(INDEX, "of # 0", -1, 1).refused(INDEX, "of 8 0")
                .beyond(INDEX, "of # 9", -1, 1).refused(INDEX, "of 8 9")
                .beyond(ARGUMENT, "of 0 #", -1, 9)
                .dues("of 0", 0, 8, "0 0 0 -1 -1 0 -1 -1 -1")
                .then("paint 0 0 5").dues("of 0", 0, 8, "1 0 0 0 -1 0 153 79 40")
                .then("sell 0 1000; damp 2 0; lend 0 2 9")
                .dues("of 0", 0, 8, "1 0 1000 0 2 9 153 79 40")
                .then("pass 4").dues("of 0", 0, 8, "1 4 800 0 2 5 153 79 40")
                .then("pass 5; squeeze 0 2 1; paint 0 0 1")
                .dues("of 0", 0, 8, "2 9 550 1 -1 0 0 0 100");
    }

    /** The grams of a pigment's tubes go together; of several pigments alike the lowest is main. */
    private static void mainPigment() {
        int[][] grams = {{4, 3, 0, 0}, {4, 3, 0, 2}, {4, 2, 0, 2}, {5, 2, 0, 2}, {4, 2, 4, 2}};
        int[] mains = {2, 1, 1, 2, 0};
        Run run = Run.of("3 the main pigment of its uppermost layer", "pigment 0 0 0;"
                + "pigment 1 1 1; pigment 2 2 2; tube 2 100; tube 1 100; tube 0 100; tube 1 100;"
                + "pot; picture");
        for (int mix = 0; mix < grams.length; mix++) {
            int all = 0;
            for (int tube = 0; tube < 4; tube++) {
                if (grams[mix][tube] > 0) {
                    run.then("squeeze 0 " + tube + " " + grams[mix][tube]);
                    all += grams[mix][tube];
                }
            }
            run.then("paint 0 0 " + all).due("of 0 3", mains[mix]);
        }
    }

    private static void layer() {
        Run.of("Returns what a layer has of a tube.",
                SHOP + "picture; picture; paint 0 0 2; paint 0 0 3")
                .beyond(INDEX, "layer # 0 0", -1, 2).refused(INDEX, "layer 8 0 0")
                .beyond(INDEX, "layer 0 # 0", -1, 2).refused(INDEX, "layer 0 8 0")
                .beyond(INDEX, "layer 1 # 0", -1, 0).refused(INDEX, "layer 1 8 0")
                .beyond(INDEX, "layer 0 0 #", -1, 3).refused(INDEX, "layer 0 0 12")
                .dues("layer 0 0", 0, 2, "1 1 0")
                .dues("layer 0 1", 0, 2, "2 1 0");
    }

    private static void where() {
        Run.of("Returns where the grams of a tube are.", SHOP)
                .beyond(INDEX, "where # 0", -1, 3).refused(INDEX, "where 12 0")
                .beyond(INDEX, "where # 4", -1, 3).refused(INDEX, "where 12 4")
                .beyond(ARGUMENT, "where 0 #", -1, 4)
                .dues("where 0", 0, 3, "7 3 0 0")
                .then("pour 0 1 2").dues("where 0", 0, 3, "7 3 0 0")
                .then("picture; picture; paint 0 0 2; paint 1 0 1")
                .dues("where 0", 0, 3, "7 1 2 0")
                .dues("where 1", 0, 3, "8 1 1 0")
                .then("clean 1 1; scrape 1")
                .dues("where 0", 0, 3, "7 0 1 2")
                .dues("where 1", 0, 3, "8 0 1 1")
                .dues("where 2", 0, 3, "10 0 0 0");
    }

    private static void recipe() {
        Run.of("Returns the recipe that matches a sample.", "")
                .due("recipe 0 0 0", NONE)
                .beyond(ARGUMENT, "recipe # 0 0", -1, 256)
                .beyond(ARGUMENT, "recipe 0 # 0", -1, 256)
                .beyond(ARGUMENT, "recipe 0 0 #", -1, 256)
                .then("pigment 200 0 0; pigment 0 0 200")
                .due("recipe 0 0 0", NONE)
                .then("tube 0 10; tube 1 10")
                .due("recipe 0 0 255", 10)
                .due("recipe 50 0 150", 11)
                .due("recipe 100 0 100", 12)
                .due("recipe 150 0 50", 13)
                .due("recipe 200 0 0", 0)
                .then("pot; squeeze 0 0 10")
                .due("recipe 200 0 0", 1010)
                .then("squeeze 0 1 10")
                .due("recipe 200 0 0", NONE);
    }

    private static void recipeTies() {
        Run.of("of several the lowest first tube, then the lowest second one", "pigment 0 0 0;"
                + "pigment 100 0 0; tube 1 10; tube 0 10; tube 0 10; tube 1 10")
                .due("recipe 25 0 0", 11)
                .due("recipe 12 0 0", 10)
                .due("recipe 255 0 0", 0)
                .then("pot; squeeze 0 0 10")
                .due("recipe 0 0 0", 1010)
                .due("recipe 25 0 0", 1033)
                .due("recipe 255 0 0", 1030);
    }

    /** A sample in the middle of the mixes 1 + 3 and 2 + 2 of tubes 1 and 3. */
    private static void recipeHalfway() {
        Run.of("then the fewest parts of the first one", "pigment 0 8 0; pigment 0 0 0;"
                + "pigment 0 0 255; tube 2 1; tube 0 1; tube 2 1; tube 1 1")
                .due("recipe 0 3 0", 1031);
    }

    private static void recipeRoundsTheSum() {
        String sentence = "the parts times the colours of the pigments, divided by 4";
        Run.of(sentence, "pigment 3 255 0; pigment 3 0 255; tube 0 1; tube 1 1")
                .due("recipe 3 127 127", 12);
        Run.of(sentence, "pigment 1 0 0; pigment 0 0 0; tube 0 1; tube 1 1")
                .due("recipe 1 0 0", 0)
                .due("recipe 0 0 0", 10);
    }

    private static void paid() {
        Run run = Run.of("Returns all that a house has paid.",
                SHOP + "picture; paint 0 0 5; sell 0 1000")
                .beyond(INDEX, "paid #", -1, 4);
        for (int house = 0; house < 4; house++) {
            run.then("lend 0 " + house + " " + (house + 1) + "; pass " + (house + 2));
        }
        run.dues("paid", 0, 3, "11 22 33 44");
    }

    /** As many of everything as there can be: the last ones work as the others do. */
    private static void fullShop() {
        Run run = filledShop();
        for (int tube = 0; tube < 12; tube++) {
            run.due("where " + tube + " 0", 1000 - 10 * (10 + tube));
            Checks.same("all of tube " + tube, 1000, all(run, tube));
        }
        run.due("has 9 -1", 186).due("has 9 11", 21)
                .due("sell 7 700", 700)
                .due("recipe 200 0 0", 50)
                .then("squeeze 9 5 850").due("recipe 200 0 0", 110)
                .due("clean 7 12", 134);
        Checks.same("all of the last tube", 1000, all(run, 11));
        run.due("of 6 0", 12)
                .then("lend 7 3 2").due("pass 1", 1).due("of 7 5", 1)
                .unchanged("paid 3");
    }

    private static Run filledShop() {
        Run run = Run.of("numbered from 0, at most", "");
        for (int pigment = 0; pigment < 6; pigment++) {
            run.then("pigment " + 40 * pigment + " 0 0");
        }
        for (int tube = 0; tube < 12; tube++) {
            run.then("tube " + tube % 6 + " 1000");
        }
        for (int pot = 0; pot < 10; pot++) {
            run.then("pot");
            for (int tube = 0; tube < 12; tube++) {
                run.then("squeeze " + pot + " " + tube + " " + (10 + tube));
            }
        }
        for (int picture = 0; picture < 8; picture++) {
            run.then("picture").times(11, "paint " + picture + " " + picture + " 12")
                    .then("paint " + picture + " " + picture + " 2");
        }
        return run;
    }

    private static int all(Run run, int tube) {
        int sum = 0;
        for (int place = 0; place < 4; place++) {
            sum += run.ask("where " + tube + " " + place);
        }
        return sum;
    }
}
