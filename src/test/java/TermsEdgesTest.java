/** The boundary cases of 'Terms' down to 'Exceptions', sentence by sentence. */
public final class TermsEdgesTest {
    private static final int NONE = AtelierBook.NONE;

    /** Pots 0 and 1 with paint of the pigments 0 and 1, and three pictures with paint of pot 0. */
    private static final String SHOP = "pigment 200 0 0; pigment 0 0 200; tube 0 1000; tube 1 1000;"
            + "pot; pot; squeeze 0 0 500; squeeze 1 1 500; picture; picture; picture;"
            + "paint 0 0 10; paint 1 0 10; paint 2 0 10";

    public static void main(String[] args) {
        none();
        addsUp();
        questionsChangeNothing();
        roundedDown();
        shares();
        sharesOfOne();
        sharesAddUp();
        colourOfPot();
        mainPigmentOfSeveral();
        mainPigmentOfAllItsTubes();
        look();
        scrapedIsWasted();
        recipeNearest();
        recipeRounds();
        recipeLowestFirst();
        recipeLowestSecond();
        recipeFewestParts();
        recipeGramsLeft();
        daysFromZero();
        housesAtFirst();
        backWhenGoneBy();
        crackEachDay();
        moreThanTenAway();
        crackIfLent();
        soldStays();
        alikeAsTheyAreNow();
        alikeNone();
        latestSale();
        dividedByHowMany();
        twentiethForEachCrack();
        valueAtLeastZero();
        valueWithoutAny();
        hundredthAndOne();
        valueAsItWasLent();
        costsEachDay();
        Checks.end("TermsEdgesTest");
    }

    private static void none() {
        Checks.same("`NONE = -1`: There is none.", -1, AtelierBook.NONE);
    }

    private static void addsUp() {
        Run run = Run.of("Pigment on pictures, in tubes and mixes and wasted adds up.",
                "pigment 1 2 3; tube 0 1000; tube 0 1; tube 0 500; pot; pot; picture; picture");
        String[] calls = {"squeeze 0 0 1000", "squeeze 0 1 1", "squeeze 1 2 333", "pour 0 1 77",
            "pour 1 0 410", "paint 0 0 1000", "paint 0 0 1", "clean 0 1", "paint 1 0 300",
            "pour 0 1 7", "clean 0 1", "scrape 0", "scrape 0", "paint 1 1 7", "clean 1 2",
            "squeeze 0 2 167"};
        int[] grams = {1000, 1, 500};
        for (String call : calls) {
            run.then(call);
            for (int tube = 0; tube < 3; tube++) {
                int all = 0;
                for (int what = 0; what < 4; what++) {
                    int part = run.ask("where " + tube + " " + what);
                    Checks.same("not below 0 after " + call, true, part >= 0);
                    all += part;
                }
                Checks.same("tube " + tube + " adds up after " + call, grams[tube], all);
            }
        }
    }

    private static void questionsChangeNothing() {
        Run.of("Questions change nothing.", SHOP + "; sell 0 900; clean 2 1; damp 1 90; lend 0 1 3;"
                + "pass 1")
                .unchanged("left 0", "has 0 -1", "has 0 0", "has 1 0", "colour 0 0", "layer 0 0 0",
                        "where 0 0", "where 0 1", "where 0 2", "where 0 3", "recipe 9 9 9",
                        "recipe 0 0 255", "paid 0", "paid 1")
                .unchanged("of 0 0", "of 0 1", "of 0 2", "of 0 3", "of 0 4", "of 0 5", "of 0 6",
                        "of 0 7", "of 0 8", "of 2 2", "of 2 3")
                .unchanged("left 2", "has 2 0", "colour 0 3", "layer 0 1 0", "where 0 4",
                        "recipe -1 0 0", "paid 4", "of 0 9", "of 3 0");
    }

    private static void roundedDown() {
        String sentence = "where something is divided, it is rounded down";
        Run.of(sentence, "pigment 1 2 5; pigment 0 0 0; tube 0 10; tube 1 10; pot; squeeze 0 0 2;"
                + "squeeze 0 1 1").dues("colour 0", 0, 2, "0 1 3");
        Run.of(sentence, SHOP + "; sell 0 1").due("sell 1 2", 1);
        Run.of(sentence, SHOP + "; sell 0 99").due("lend 0 0 1", 1)
                .due("sell 1 101", 100).due("lend 1 0 1", 2);
    }

    /** Takings are differences of rounded sums, so that they are not the rounded own shares. */
    private static void shares() {
        String sentence = "s and its own, together, times g, divided by t, less s times g divided"
                + " by t, each divided by itself.";
        String four = "pigment 9 9 9; tube 0 9; tube 0 9; tube 0 9; tube 0 9; pot; pot;";
        Run.of(sentence, four + "squeeze 0 0 1; squeeze 0 1 1; squeeze 0 2 1; squeeze 0 3 1;"
                + "pour 0 1 2")
                .dues("has 1", 0, 3, "0 1 0 1").dues("has 0", 0, 3, "1 0 1 0");
        Run.of(sentence, four + "squeeze 0 0 5; squeeze 0 2 5; pour 0 1 5")
                .dues("has 1", 0, 3, "2 0 3 0").dues("has 0", 0, 3, "3 0 2 0");
        Run.of(sentence, four + "squeeze 0 0 2; squeeze 0 1 3; squeeze 0 3 6; picture;"
                + "paint 0 0 10")
                .due("layer 0 0 0", 1).due("layer 0 0 1", 3).due("layer 0 0 2", 0)
                .due("layer 0 0 3", 6).dues("has 0", 0, 3, "1 0 0 0");
        Run.of(sentence, four + "squeeze 0 3 4; squeeze 0 2 3; squeeze 0 0 1; pour 0 1 3")
                .dues("has 1", 0, 3, "0 0 1 2").dues("has 0", 0, 3, "1 0 2 2");
    }

    private static void sharesOfOne() {
        Run.of("To pour g grams of a pot that has t in all",
                "pigment 9 9 9; tube 0 9; tube 0 9; pot; pot; squeeze 0 0 1")
                .due("pour 0 1 1", 1).dues("has 1", -1, 1, "1 1 0").dues("has 0", -1, 1, "0 0 0")
                .then("squeeze 0 1 1")
                .due("pour 0 1 1", 2).dues("has 1", -1, 1, "2 1 1").dues("has 0", -1, 1, "0 0 0")
                .due("pour 1 0 2", 2).dues("has 0", -1, 1, "2 1 1").dues("has 1", -1, 1, "0 0 0");
    }

    private static void sharesAddUp() {
        for (int grams = 1; grams <= 60; grams++) {
            Run.of("That is g in all.", "pigment 9 9 9; tube 0 50; tube 0 50; tube 0 50; pot; pot;"
                    + "picture; squeeze 0 0 7; squeeze 0 1 36; squeeze 0 2 17")
                    .due("pour 0 1 " + grams, grams)
                    .due("has 0 -1", 60 - grams).due("has 1 -1", grams)
                    .then("paint 0 1 " + (grams + 1) / 2)
                    .due("has 1 -1", grams / 2);
        }
    }

    private static void colourOfPot() {
        String sentence = "the sum of grams times that of the pigment, divided by all its grams;"
                + " nothing of an empty one";
        Run.of(sentence, "pigment 255 0 100; pigment 0 255 101; tube 0 1000; tube 1 1000; pot; pot")
                .dues("colour 0", 0, 2, "-1 -1 -1")
                .then("squeeze 0 0 1").dues("colour 0", 0, 2, "255 0 100")
                .then("squeeze 0 1 999").dues("colour 0", 0, 2, "0 254 100")
                .then("squeeze 0 0 999; squeeze 0 1 1").dues("colour 0", 0, 2, "127 127 100")
                .dues("colour 1", 0, 2, "-1 -1 -1");
    }

    /** Layers of some grams of the tubes 0 to 3, which are of the pigments 2, 1, 0 and 1. */
    private static void mainPigmentIs(int main, String sentence, int... grams) {
        Run run = Run.of(sentence, "pigment 1 1 1; pigment 2 2 2; pigment 3 3 3; tube 2 100;"
                + "tube 1 100; tube 0 100; tube 1 100; pot; picture");
        int all = 0;
        for (int tube = 0; tube < grams.length; tube++) {
            all += grams[tube];
            if (grams[tube] > 0) {
                run.then("squeeze 0 " + tube + " " + grams[tube]);
            }
        }
        run.then("paint 0 0 " + all).due("of 0 3", main);
    }

    private static void mainPigmentOfSeveral() {
        String sentence = "The main pigment of something is that with the most grams, of all its"
                + " tubes together, of several the lowest.";
        mainPigmentIs(2, sentence, 1, 0, 0, 0);
        mainPigmentIs(0, sentence, 0, 0, 1, 0);
        mainPigmentIs(0, sentence, 5, 5, 5, 0);
        mainPigmentIs(1, sentence, 5, 5, 4, 0);
        mainPigmentIs(0, sentence, 5, 4, 5, 0);
        mainPigmentIs(2, sentence, 6, 5, 5, 0);
        mainPigmentIs(2, sentence, 2, 1, 0, 0);
    }

    private static void mainPigmentOfAllItsTubes() {
        String sentence = "of all its tubes together";
        mainPigmentIs(1, sentence, 5, 3, 0, 3);
        mainPigmentIs(1, sentence, 5, 3, 0, 2);
        mainPigmentIs(2, sentence, 6, 3, 0, 2);
        mainPigmentIs(1, sentence, 5, 0, 0, 6);
        mainPigmentIs(0, sentence, 4, 2, 4, 2);
    }

    private static void look() {
        Run.of("The look of a picture is the colour of its uppermost layer.", SHOP)
                .dues("of 0", 6, 8, "200 0 0")
                .then("paint 0 1 1").dues("of 0", 6, 8, "0 0 200")
                .then("pour 0 1 1; paint 0 1 500").dues("of 0", 6, 8, "0 0 199")
                .then("clean 0 1").dues("of 0", 6, 8, "0 0 200")
                .then("clean 0 1").dues("of 0", 6, 8, "200 0 0")
                .then("clean 0 1").dues("of 0", 6, 8, "-1 -1 -1");
    }

    private static void scrapedIsWasted() {
        Run.of("What is scraped out of a pot is wasted, too.", SHOP + "; clean 0 1; pour 0 1 100")
                .due("where 0 3", 10).due("where 1 3", 0)
                .due("scrape 1", 600)
                .due("where 0 3", 110).due("where 1 3", 500).due("where 0 1", 370);
    }

    /** By the sum of the squares the mix of 1 and 3 is nearest, by other measures another one. */
    private static void recipeNearest() {
        Run.of("is nearest: the sum of the squares of the differences is least",
                "pigment 30 0 0; pigment 20 20 0; tube 0 1; tube 1 1")
                .due("recipe 0 0 0", 11);
        String ends = "pigment 0 0 0; pigment 255 255 255; tube 0 1; tube 1 1";
        Run.of("parts of the first one, 0 to 4, of 4 in all", ends)
                .due("recipe 0 0 0", 0).due("recipe 255 255 255", 10)
                .due("recipe 63 63 63", 13).due("recipe 127 127 127", 12)
                .due("recipe 191 191 191", 11);
        Run.of("red, green and blue", "pigment 255 0 0; pigment 0 255 0; pigment 0 0 255;"
                + "tube 0 1; tube 1 1; tube 2 1")
                .due("recipe 255 0 0", 0).due("recipe 0 255 0", 10).due("recipe 0 0 255", 20)
                .due("recipe 0 128 128", 1022).due("recipe 60 0 190", 21);
    }

    private static void recipeRounds() {
        Run.of("(the parts times the colours of the pigments, divided by 4)",
                "pigment 3 0 0; pigment 3 255 0; tube 0 1; tube 1 1")
                .due("recipe 3 127 0", 12).due("recipe 3 63 0", 13).due("recipe 3 191 0", 11);
    }

    private static void recipeLowestFirst() {
        Run.of("of several the lowest first tube", "pigment 90 90 90; pigment 7 7 7; tube 0 1;"
                + "tube 1 1; tube 1 1")
                .due("recipe 7 7 7", 10);
        Run.of("the first number not above the second", "pigment 0 0 200; pigment 200 0 0;"
                + "tube 0 1; tube 1 1")
                .due("recipe 150 0 50", 11);
    }

    private static void recipeLowestSecond() {
        Run.of("then the lowest second one", "pigment 0 0 0; pigment 80 80 80; tube 0 1; tube 1 1;"
                + "tube 1 1; tube 0 1")
                .due("recipe 80 80 80", 10).due("recipe 60 60 60", 11).due("recipe 0 0 0", 0);
        Run.of("then the lowest second one", "pigment 0 0 0; pigment 50 50 50; pigment 81 81 81;"
                + "pigment 80 80 80; tube 0 1; tube 2 1; tube 3 1")
                .due("recipe 40 40 40", 12);
    }

    /** Red goes by twos with the parts, so that an odd sample lies in the middle of two mixes. */
    private static void recipeFewestParts() {
        Run.of("then the fewest parts of the first one",
                "pigment 8 0 0; pigment 0 0 0; tube 0 1; tube 1 1")
                .due("recipe 1 0 0", 10).due("recipe 3 0 0", 11).due("recipe 5 0 0", 12)
                .due("recipe 7 0 0", 0);
        Run.of("then the fewest parts of the first one", "pigment 5 6 7; tube 0 1")
                .due("recipe 5 6 7", 0).due("recipe 255 255 255", 0);
        Run.of("1000 times the first tube, 10 times the second one, and the parts of the first one",
                "pigment 0 0 0; pigment 100 0 0; pot").times(10, "tube 0 1")
                .then("tube 1 1; tube 0 1")
                .due("recipe 75 0 0", 101)
                .then("squeeze 0 0 1").due("recipe 75 0 0", 1101)
                .then("squeeze 0 1 1; squeeze 0 2 1; squeeze 0 3 1; squeeze 0 4 1; squeeze 0 5 1;"
                        + "squeeze 0 6 1; squeeze 0 7 1; squeeze 0 8 1; squeeze 0 9 1")
                .due("recipe 75 0 0", 10113)
                .then("squeeze 0 10 1").due("recipe 75 0 0", 11110);
    }

    private static void recipeGramsLeft() {
        Run.of("of all pairs of tubes with grams left", "pigment 0 0 0; pigment 90 0 0; tube 0 5;"
                + "tube 1 5; tube 1 5; pot; squeeze 0 0 4; squeeze 0 1 4")
                .due("recipe 45 0 0", 12)
                .then("squeeze 0 1 1").due("recipe 45 0 0", 22)
                .then("squeeze 0 0 1").due("recipe 45 0 0", 2020)
                .then("squeeze 0 2 5").due("recipe 45 0 0", NONE)
                .then("tube 0 1").due("recipe 45 0 0", 3030);
    }

    private static void daysFromZero() {
        Run.of("Days are counted from 0.", "").due("pass 1", 1);
        Run.of("Days are counted from 0.", "").due("pass 100", 100).due("pass 1", 101);
    }

    private static void housesAtFirst() {
        Run.of("There are the houses 0 to 3, each with a damp, 0 to 100, 50 at first.", "")
                .due("damp 0 0", 50).due("damp 1 100", 50).due("damp 2 50", 50).due("damp 3 9", 50)
                .due("damp 0 1", 0).due("damp 1 1", 100).due("damp 2 1", 50).due("damp 3 1", 9);
    }

    private static void backWhenGoneBy() {
        String sentence = "it is back when they have gone by, in each of which it is lent";
        Run.of(sentence, SHOP + "; lend 0 2 1; lend 1 2 3; pass 1")
                .due("of 0 4", NONE).due("of 1 4", 2).due("of 1 5", 2)
                .due("lend 0 3 1", 1)
                .then("pass 1").due("of 0 4", NONE).due("of 1 5", 1)
                .then("pass 1").due("of 1 4", NONE).due("of 1 5", 0)
                .then("pass 1").due("of 1 5", 0).dues("paid", 0, 3, "0 0 4 1");
        Run.of(sentence, SHOP + "; lend 0 2 3; pass 100").dues("of 0", 4, 5, "-1 0")
                .dues("paid", 0, 3, "0 0 3 0").due("paint 0 0 1", 2);
    }

    private static void crackEachDay() {
        Run.of("With each day that passes a picture has a crack more", SHOP + "; damp 0 0;"
                + "lend 0 0 9; lend 1 0 2")
                .due("of 0 1", 0)
                .then("pass 1").due("of 0 1", 1).due("of 1 1", 1).due("of 2 1", 0)
                .then("pass 3").due("of 0 1", 4).due("of 1 1", 2)
                .then("pass 100").due("of 0 1", 9).due("of 1 1", 2).due("of 2 1", 0)
                .then("clean 0 1; paint 0 0 1").due("of 0 1", 9);
    }

    private static void moreThanTenAway() {
        int[] damps = {0, 1, 39, 40, 41, 50, 59, 60, 61, 99, 100};
        int[] cracks = {4, 4, 4, 0, 0, 0, 0, 0, 4, 4, 4};
        for (int i = 0; i < damps.length; i++) {
            Run.of("the damp of the house is more than 10 away from 50", SHOP + "; damp 3 "
                    + damps[i] + "; lend 0 3 4; pass 4").due("of 0 1", cracks[i]);
        }
    }

    private static void crackIfLent() {
        Run.of("if it is lent, and the damp of the house", SHOP + "; damp 0 0; damp 1 0; damp 3 0;"
                + "lend 0 2 4; pass 2")
                .due("of 0 1", 0).due("of 1 1", 0)
                .then("damp 2 61; pass 1; damp 2 60; pass 1").due("of 0 1", 1)
                .then("damp 2 0; pass 9").due("of 0 1", 1);
    }

    private static void soldStays() {
        Run.of("it stays in the shop's book", SHOP).due("sell 0 500", 500)
                .dues("of 0", 0, 5, "1 0 500 0 -1 0")
                .due("paint 0 0 1", 2).due("lend 0 0 1", 6).then("pass 1").due("clean 0 2", 11);
    }

    private static void alikeAsTheyAreNow() {
        Run.of("Two pictures are alike, if their uppermost layers, as they are now, have the same"
                + " main pigment", SHOP + "; sell 0 100; sell 1 300")
                .due("of 0 2", 200).due("of 2 2", 200)
                .then("paint 1 1 1").due("of 0 2", 100).due("of 1 2", 300).due("of 2 2", 100)
                .then("paint 2 1 1").due("of 2 2", 300)
                .then("clean 1 1").due("of 0 2", 200).due("of 1 2", 200).due("of 2 2", 0)
                .then("squeeze 0 1 471; paint 1 0 901").due("of 1 3", 1)
                .due("of 0 2", 100).due("of 1 2", 300).due("of 2 2", 300);
        Run.of("have the same main pigment", "pigment 9 9 9; pigment 9 9 9; tube 0 9; tube 1 9;"
                + "tube 0 9; pot; pot; pot; squeeze 0 0 9; squeeze 1 1 9; squeeze 2 2 9;"
                + "picture; picture; picture; paint 0 0 1; paint 1 1 1; paint 2 2 1; sell 0 70")
                .due("of 1 2", 0).due("of 2 2", 70);
    }

    /** Sold, then cleaned bare: it is alike none, so that not even its own sale counts. */
    private static void alikeNone() {
        Run.of("one without a layer is alike none", SHOP + "; sell 0 400; clean 0 1; clean 1 1")
                .due("of 0 2", 0).due("of 1 2", 0).due("of 2 2", 0)
                .due("lend 0 0 1", 1)
                .then("pass 1; sell 2 90").due("of 0 2", 0).due("of 2 2", 90)
                .then("paint 1 0 1").due("of 1 2", 90)
                .then("paint 0 1 1").due("of 0 2", 400).due("of 2 2", 90);
    }

    private static void latestSale() {
        Run.of("the sum of the prices of the latest sale of each picture alike, itself too, that"
                + " was sold", SHOP)
                .due("sell 0 100", 100).due("sell 0 50", 50).due("sell 0 60", 60)
                .due("sell 1 40", 50).due("of 2 2", 50)
                .due("sell 0 20", 30).due("of 1 2", 30)
                .due("sell 2 6", 22);
    }

    private static void dividedByHowMany() {
        Run run = Run.of("divided by how many there are", SHOP).times(5, "picture");
        for (int picture = 3; picture < 8; picture++) {
            run.then("paint " + picture + " 0 1");
        }
        for (int picture = 0; picture < 7; picture++) {
            run.due("sell " + picture + " 100000", 100000);
        }
        run.due("of 7 2", 100000).due("sell 7 1", 87500).due("of 0 2", 87500)
                .due("sell 7 100000", 100000);
    }

    /** A twentieth is rounded down before it is taken off, once for each crack. */
    private static void twentiethForEachCrack() {
        String sentence = "and for each crack less a twentieth of that, rounded down";
        String cracks = SHOP + "; damp 0 0; lend 0 0 3; pass 3; ";
        Run.of(sentence, cracks).due("sell 0 19", 19).due("sell 0 20", 17).due("sell 0 39", 36)
                .due("sell 0 40", 34).due("sell 0 59", 53).due("sell 0 99999", 85002)
                .due("sell 0 100000", 85000).due("of 1 2", 100000);
        Run.of(sentence, cracks + "sell 1 1000; sell 0 201").due("of 0 2", 510)
                .due("of 1 2", 600).due("of 2 2", 600)
                .due("lend 0 0 7", 6).then("pass 7").due("of 0 2", 300).due("of 1 2", 600);
    }

    private static void valueAtLeastZero() {
        Run.of("but at least 0", SHOP + "; sell 0 100000; damp 0 0; lend 0 0 100; pass 19")
                .due("of 0 2", 5000)
                .then("pass 1").due("of 0 2", 0)
                .then("pass 1").due("of 0 2", 0)
                .then("pass 79").due("of 0 1", 100).due("of 0 2", 0).due("of 1 2", 100000)
                .due("sell 0 39", 0).due("sell 0 19", 19).due("sell 0 20", 0);
        Run.of("but at least 0", SHOP + "; sell 0 39; damp 0 0; lend 0 0 100; pass 38")
                .due("of 0 2", 1).then("pass 1").due("of 0 2", 0).then("pass 1").due("of 0 2", 0);
    }

    private static void valueWithoutAny() {
        Run.of("0 without any", SHOP + "; picture")
                .due("of 0 2", 0).due("of 3 2", 0)
                .then("paint 3 1 1; sell 3 1000").due("of 0 2", 0).due("of 3 2", 1000)
                .then("clean 3 1").due("of 3 2", 0)
                .then("damp 0 0; lend 0 0 5; pass 5").due("of 0 2", 0);
    }

    private static void hundredthAndOne() {
        int[] prices = {1, 99, 100, 199, 200, 99999, 100000};
        int[] costs = {1, 1, 2, 2, 3, 1000, 1001};
        for (int i = 0; i < prices.length; i++) {
            Run.of("a hundredth of the value that the picture had as it was lent, and 1",
                    SHOP + "; sell 0 " + prices[i])
                    .due("lend 0 3 1", costs[i]).due("lend 1 2 2", costs[i])
                    .then("pass 2").dues("paid", 0, 3, "0 0 " + 2 * costs[i] + " " + costs[i]);
        }
    }

    private static void valueAsItWasLent() {
        Run.of("the value that the picture had as it was lent", SHOP + "; sell 0 1000; damp 1 0")
                .due("lend 0 1 20", 11)
                .then("pass 5").due("of 0 2", 750).due("paid 1", 55)
                .then("sell 1 100000; pass 2").due("paid 1", 77)
                .then("paint 1 1 1; paint 2 1 1; pass 1").due("paid 1", 88)
                .then("damp 1 50; pass 12").due("paid 1", 220)
                .due("of 0 1", 8).due("of 0 2", 600).due("lend 0 0 2", 7)
                .then("pass 2").due("paid 0", 14).due("paid 1", 220);
    }

    private static void costsEachDay() {
        Run.of("A loan costs the house, each day", SHOP + "; sell 0 900; lend 0 2 2; lend 1 2 4")
                .due("paid 2", 0)
                .then("pass 1").due("paid 2", 20)
                .then("pass 1").due("paid 2", 40)
                .then("pass 1").due("paid 2", 50)
                .then("pass 100").due("paid 2", 60)
                .dues("paid", 0, 3, "0 0 60 0");
    }
}
