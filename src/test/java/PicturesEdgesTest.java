/** The boundary cases of promises 8 to 10, sentence by sentence. */
public final class PicturesEdgesTest {
    private static final Class<? extends RuntimeException> INDEX = Checks.INDEX;
    private static final Class<? extends RuntimeException> ARGUMENT = Checks.ARGUMENT;
    private static final Class<? extends RuntimeException> STATE = Checks.STATE;

    /** A pot with 40 grams, an empty one, and a picture without layers. */
    private static final String SHOP = "pigment 200 100 50; tube 0 50; pot; pot;"
            + "squeeze 0 0 40; picture";

    public static void main(String[] args) {
        picturesFull();
        pictureEmpty();
        paintOfNothing();
        paintRange();
        paintLent();
        paintFull();
        paintTooMuch();
        paintOrder();
        cleanOfNoPicture();
        cleanRange();
        cleanLent();
        cleanTooMany();
        cleanOrder();
        cleanAndPaintAgain();
        Checks.end("PicturesEdgesTest");
    }

    private static void picturesFull() {
        Run.of("Throws `IllegalStateException` if there are 8", "").times(7, "picture")
                .refused(INDEX, "of 7 0")
                .due("picture", 7)
                .refused(STATE, "picture", "picture")
                .refused(INDEX, "of 8 0")
                .due("of 7 0", 0);
    }

    private static void pictureEmpty() {
        Run.of("Begins a picture without layers.", "picture; picture")
                .dues("of 1", 0, 8, "0 0 0 -1 -1 0 -1 -1 -1")
                .refused(INDEX, "layer 1 0 0");
    }

    private static void paintOfNothing() {
        Run.of("Throws `IndexOutOfBoundsException` if there is no such picture or pot", SHOP)
                .beyond(INDEX, "paint # 0 1", -1, 1)
                .beyond(INDEX, "paint 0 # 1", -1, 2)
                .refused(INDEX, "paint 8 0 1", "paint 0 10 1");
    }

    private static void paintRange() {
        Run.of("`grams`: 1 to 1000", SHOP + "; tube 0 1000; tube 0 1000; squeeze 1 1 1000;"
                + "squeeze 1 2 1000")
                .beyond(ARGUMENT, "paint 0 1 #", 0, 1001)
                .refused(ARGUMENT, "paint 0 1 -1")
                .due("paint 0 1 1", 1)
                .due("paint 0 1 1000", 2)
                .due("has 1 -1", 999)
                .refused(STATE, "paint 0 1 1000")
                .due("paint 0 1 999", 3);
    }

    private static void paintLent() {
        Run.of("Throws `IllegalStateException` if the picture is lent", SHOP + "; lend 0 3 2")
                .refused(STATE, "paint 0 0 1", "paint 0 0 40")
                .then("pass 1")
                .refused(STATE, "paint 0 0 1")
                .then("pass 1")
                .due("paint 0 0 1", 1);
    }

    private static void paintFull() {
        Run.of("Throws `IllegalStateException` if the picture is lent, has 12 layers", SHOP)
                .times(11, "paint 0 0 1")
                .due("of 0 0", 11)
                .due("paint 0 0 2", 12)
                .refused(STATE, "paint 0 0 1", "paint 0 0 27")
                .due("layer 0 11 0", 2)
                .due("has 0 -1", 27)
                .then("picture")
                .due("paint 1 0 3", 1)
                .due("layer 0 11 0", 2).due("layer 1 0 0", 3);
    }

    private static void paintTooMuch() {
        Run.of("or the pot has not so much", SHOP)
                .refused(STATE, "paint 0 0 41", "paint 0 0 1000", "paint 0 1 1")
                .due("paint 0 0 40", 1)
                .due("has 0 -1", 0).due("layer 0 0 0", 40)
                .refused(STATE, "paint 0 0 1");
        Run.of("Returns how many layers it has then.", SHOP + "; picture")
                .due("paint 0 0 1", 1).due("paint 0 0 1", 2).due("paint 1 0 1", 1)
                .due("paint 0 0 1", 3);
    }

    private static void paintOrder() {
        Run.of("the one that is named first in the throws clause is thrown", SHOP)
                .times(12, "paint 0 0 1").then("lend 0 0 1")
                .refused(INDEX, "paint 1 0 1", "paint 0 2 1", "paint 1 0 0", "paint 0 2 1001",
                        "paint -1 -1 -1")
                .refused(ARGUMENT, "paint 0 0 0", "paint 0 0 1001", "paint 0 1 0")
                .refused(STATE, "paint 0 0 1", "paint 0 0 1000", "paint 0 1 1");
    }

    private static void cleanOfNoPicture() {
        Run.of("Throws `IndexOutOfBoundsException` if there is no such picture",
                SHOP + "; paint 0 0 1")
                .beyond(INDEX, "clean # 1", -1, 1)
                .refused(INDEX, "clean 8 1");
    }

    private static void cleanRange() {
        Run.of("`layers`: 1 to 12: how many are taken off", SHOP).times(12, "paint 0 0 2")
                .beyond(ARGUMENT, "clean 0 #", 0, 13)
                .refused(ARGUMENT, "clean 0 -1")
                .due("clean 0 1", 2)
                .due("of 0 0", 11)
                .then("paint 0 0 3")
                .due("clean 0 12", 25)
                .due("of 0 0", 0)
                .refused(INDEX, "layer 0 0 0");
    }

    private static void cleanLent() {
        Run.of("Throws `IllegalStateException` if the picture is lent, or has not so many",
                SHOP + "; paint 0 0 1; lend 0 3 2")
                .refused(STATE, "clean 0 1", "clean 0 2")
                .then("pass 1")
                .refused(STATE, "clean 0 1")
                .then("pass 1")
                .due("clean 0 1", 1);
    }

    private static void cleanTooMany() {
        Run.of("or has not so many", SHOP)
                .refused(STATE, "clean 0 1", "clean 0 12")
                .then("paint 0 0 5; paint 0 0 7")
                .refused(STATE, "clean 0 3", "clean 0 12")
                .due("clean 0 2", 12)
                .refused(STATE, "clean 0 1");
        Run.of("or has not so many", SHOP).times(11, "paint 0 0 1")
                .refused(STATE, "clean 0 12")
                .due("clean 0 11", 11);
    }

    private static void cleanOrder() {
        Run.of("the one that is named first in the throws clause is thrown", SHOP + "; lend 0 0 1")
                .refused(INDEX, "clean 1 1", "clean 1 0", "clean 1 13", "clean -1 -1")
                .refused(ARGUMENT, "clean 0 0", "clean 0 13")
                .refused(STATE, "clean 0 1", "clean 0 12");
    }

    /** A layer that was taken off leaves nothing to the next one in its place. */
    private static void cleanAndPaintAgain() {
        Run.of("To clean a picture is to take its uppermost layers off, which are wasted.",
                SHOP + "; pigment 0 0 0; tube 1 50; squeeze 1 1 20; paint 0 0 3; paint 0 1 5;"
                        + "paint 0 0 7")
                .due("clean 0 2", 12)
                .due("layer 0 0 0", 3).due("layer 0 0 1", 0)
                .refused(INDEX, "layer 0 1 0", "layer 0 2 0")
                .due("where 0 3", 7).due("where 1 3", 5)
                .due("where 0 2", 3).due("where 1 2", 0)
                .due("paint 0 0 1", 2)
                .due("layer 0 1 0", 1).due("layer 0 1 1", 0);
    }
}
