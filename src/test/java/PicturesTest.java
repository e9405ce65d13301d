/** Promises 8 to 10: picture, paint, clean. */
public final class PicturesTest {
    private static final Class<? extends RuntimeException> INDEX = Checks.INDEX;
    private static final Class<? extends RuntimeException> ARGUMENT = Checks.ARGUMENT;
    private static final Class<? extends RuntimeException> STATE = Checks.STATE;

    /** A picture, and a pot with 30 grams of a red tube and 20 of a blue one. */
    private static final String SHOP = "pigment 200 0 0; pigment 0 0 200; tube 0 100; tube 1 50;"
            + "pot; squeeze 0 0 30; squeeze 0 1 20; picture;";

    public static void main(String[] args) {
        picture();
        paint();
        paintRefused();
        mostLayers();
        clean();
        cleanRefused();
        Checks.end("PicturesTest");
    }

    private static void picture() {
        Run run = Run.of("Begins a picture without layers.", "");
        for (int number = 0; number < 8; number++) {
            run.due("picture", number)
                    .dues("of " + number, 0, 8, "0 0 0 -1 -1 0 -1 -1 -1");
        }
        run.refused(STATE, "picture");
    }

    private static void paint() {
        Run.of("Paints a layer of a pot.", SHOP + "picture")
                .due("paint 0 0 33", 1)
                .dues("layer 0 0", 0, 1, "19 14")
                .dues("has 0", 0, 1, "11 6")
                .due("paint 0 0 17", 2)
                .due("has 0 -1", 0)
                .dues("layer 0 0", 0, 1, "19 14")
                .dues("layer 0 1", 0, 1, "11 6")
                .due("of 1 0", 0);
    }

    private static void paintRefused() {
        Run.of("Paints a layer of a pot.", SHOP)
                .beyond(INDEX, "paint # 0 1", -1, 1).refused(INDEX, "paint 8 0 1")
                .beyond(INDEX, "paint 0 # 1", -1, 1).refused(INDEX, "paint 0 8 1")
                .beyond(INDEX, "paint 0 # 0", -1, 1).refused(INDEX, "paint 0 8 0")
                .beyond(ARGUMENT, "paint 0 0 #", 0, 1001).refused(ARGUMENT, "paint 0 0 -1")
                .refused(STATE, "paint 0 0 51", "paint 0 0 1000")
                .then("lend 0 0 1")
                .refused(STATE, "paint 0 0 1")
                .refused(ARGUMENT, "paint 0 0 0")
                .refused(INDEX, "paint 0 1 1")
                .then("pass 1")
                .due("paint 0 0 50", 1)
                .refused(STATE, "paint 0 0 1");
    }

    private static void mostLayers() {
        Run run = Run.of("a picture has layers, at most 12", SHOP);
        for (int layer = 1; layer <= 12; layer++) {
            run.due("paint 0 0 1", layer);
        }
        run.refused(STATE, "paint 0 0 1")
                .due("clean 0 12", 12)
                .due("paint 0 0 1", 1);
    }

    private static void clean() {
        Run.of("Cleans a picture.", SHOP + "paint 0 0 1; paint 0 0 2; paint 0 0 4")
                .due("clean 0 2", 6)
                .due("of 0 0", 1)
                .refused(INDEX, "layer 0 1 0")
                .due("where 0 3", 3).due("where 1 3", 3)
                .due("where 0 2", 0).due("where 1 2", 1)
                .due("paint 0 0 3", 2)
                .dues("layer 0 1", 0, 1, "1 2")
                .due("clean 0 2", 4)
                .refused(STATE, "clean 0 1");
    }

    private static void cleanRefused() {
        Run.of("Cleans a picture.", SHOP + "paint 0 0 1; paint 0 0 2; paint 0 0 4")
                .beyond(INDEX, "clean # 1", -1, 1).refused(INDEX, "clean 8 1")
                .beyond(INDEX, "clean # 0", -1, 1).refused(INDEX, "clean 8 0")
                .beyond(ARGUMENT, "clean 0 #", 0, 13).refused(ARGUMENT, "clean 0 -1")
                .refused(STATE, "clean 0 4", "clean 0 12")
                .then("lend 0 0 1")
                .refused(STATE, "clean 0 1")
                .refused(ARGUMENT, "clean 0 13")
                .then("pass 1")
                .due("clean 0 3", 7);
    }
}
