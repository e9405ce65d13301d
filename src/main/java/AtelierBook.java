/**
 * The book of a painter's shop: tubes, pots, pictures with layers, loans, sales.
 *
 * Whatever has left a tube stands in one ledger: a row for each pot, for each layer of each
 * picture and for the waste, and in each row the grams of each tube. Paint only ever moves from
 * row to row, so the grams of a tube add up at all times.
 */
public final class AtelierBook {

    /** There is none. */
    public static final int NONE = -1;

    private static final int MOST_PIGMENTS = 6;
    private static final int MOST_TUBES = 12;
    private static final int MOST_POTS = 10;
    private static final int MOST_PICTURES = 8;
    private static final int MOST_LAYERS = 12;
    private static final int HOUSES = 4;

    private static final int CHANNELS = 3;
    private static final int BRIGHTEST = 255;
    private static final int MOST_GRAMS = 1000;
    private static final int MOST_POURED = 12000;
    private static final int PARTS = 4;

    private static final int DRIEST = 0;
    private static final int DAMPEST = 100;
    private static final int MIDDLE_DAMP = 50;
    private static final int HARMLESS_DAMP = 10;
    private static final int CRACKS_THAT_KEEP_HOME = 10;
    private static final int MOST_DAYS = 100;
    private static final int LAST_DAY = 5000;

    private static final int MOST_PRICE = 100000;
    private static final int CRACK_DIVISOR = 20;
    private static final int LOAN_DIVISOR = 100;

    private static final int IN_TUBE = 0;
    private static final int IN_POTS = 1;
    private static final int ON_PICTURES = 2;
    private static final int WASTED = 3;

    private static final int LAYERS = 0;
    private static final int CRACKS = 1;
    private static final int VALUE = 2;
    private static final int MAIN_PIGMENT = 3;
    private static final int HOUSE = 4;
    private static final int DAYS_YET = 5;
    private static final int LOOK_RED = 6;
    private static final int LOOK_BLUE = 8;

    private static final int FIRST_LAYER_ROW = MOST_POTS;
    private static final int WASTE_ROW = FIRST_LAYER_ROW + MOST_PICTURES * MOST_LAYERS;
    private static final int ROWS = WASTE_ROW + 1;

    private int pigmentCount;
    private int tubeCount;
    private int potCount;
    private int pictureCount;
    private int today;

    private final int[] pigmentColours = new int[MOST_PIGMENTS * CHANNELS];
    private final int[] pigmentOfTube = new int[MOST_TUBES];
    private final int[] gramsInTube = new int[MOST_TUBES];
    private final int[] ledger = new int[ROWS * MOST_TUBES];

    private final int[] layerCounts = new int[MOST_PICTURES];
    private final int[] crackCounts = new int[MOST_PICTURES];
    /** What each picture went for last; 0 says that it was never sold. */
    private final int[] latestPrices = new int[MOST_PICTURES];
    /** The days for which each picture is lent yet; 0 says that it is at home. */
    private final int[] loanDays = new int[MOST_PICTURES];
    /** The house of each picture's latest loan, which may be over. */
    private final int[] loanHouses = new int[MOST_PICTURES];
    private final int[] loanCosts = new int[MOST_PICTURES];

    private final int[] houseDamps = new int[HOUSES];
    private final int[] housePayments = new int[HOUSES];

    /** Opens a shop without pigments and pictures, on the day 0. */
    public AtelierBook() {
        for (int house = 0; house < HOUSES; house++) {
            houseDamps[house] = MIDDLE_DAMP;
        }
    }

    // ---- tubes, pots

    /** Tells a pigment; returns its number. */
    public int pigment(int red, int green, int blue)
            throws IllegalArgumentException, IllegalStateException {
        checkColour(red, green, blue);
        if (pigmentCount >= MOST_PIGMENTS) {
            throw new IllegalStateException("no more pigments");
        }
        int first = pigmentCount * CHANNELS;
        pigmentColours[first] = red;
        pigmentColours[first + 1] = green;
        pigmentColours[first + 2] = blue;
        pigmentCount++;
        return pigmentCount - 1;
    }

    /** Buys a tube; returns its number. */
    public int tube(int pigment, int grams)
            throws IndexOutOfBoundsException, IllegalArgumentException, IllegalStateException {
        checkNumber(pigment, pigmentCount);
        checkRange(grams, 1, MOST_GRAMS);
        if (tubeCount >= MOST_TUBES) {
            throw new IllegalStateException("no more tubes");
        }
        pigmentOfTube[tubeCount] = pigment;
        gramsInTube[tubeCount] = grams;
        tubeCount++;
        return tubeCount - 1;
    }

    /** Sets up a pot; returns its number. */
    public int pot() throws IllegalStateException {
        if (potCount >= MOST_POTS) {
            throw new IllegalStateException("no more pots");
        }
        potCount++;
        return potCount - 1;
    }

    /** Squeezes a tube into a pot; returns what is left in the tube. */
    public int squeeze(int pot, int tube, int grams)
            throws IndexOutOfBoundsException, IllegalArgumentException, IllegalStateException {
        checkNumber(pot, potCount);
        checkNumber(tube, tubeCount);
        checkRange(grams, 1, MOST_GRAMS);
        if (gramsInTube[tube] < grams) {
            throw new IllegalStateException("the tube has not so much");
        }
        gramsInTube[tube] -= grams;
        ledger[place(potRow(pot), tube)] += grams;
        return gramsInTube[tube];
    }

    /** Pours of a pot into another one; returns what the other one has in all then. */
    public int pour(int pot, int other, int grams)
            throws IndexOutOfBoundsException, IllegalArgumentException, IllegalStateException {
        checkNumber(pot, potCount);
        checkNumber(other, potCount);
        if (pot == other) {
            throw new IllegalArgumentException("the pots are the same");
        }
        checkRange(grams, 1, MOST_POURED);
        if (!move(potRow(pot), potRow(other), grams)) {
            throw new IllegalStateException("the pot has not so much");
        }
        return sumOfRow(potRow(other));
    }

    /** Scrapes a pot out, which is empty then; returns what is wasted by that. */
    public int scrape(int pot) throws IndexOutOfBoundsException {
        checkNumber(pot, potCount);
        return waste(potRow(pot));
    }

    // ---- pictures

    /** Begins a picture without layers; returns its number. */
    public int picture() throws IllegalStateException {
        if (pictureCount >= MOST_PICTURES) {
            throw new IllegalStateException("no more pictures");
        }
        pictureCount++;
        return pictureCount - 1;
    }

    /** Paints a layer of a pot; returns how many layers the picture has then. */
    public int paint(int picture, int pot, int grams)
            throws IndexOutOfBoundsException, IllegalArgumentException, IllegalStateException {
        checkNumber(picture, pictureCount);
        checkNumber(pot, potCount);
        checkRange(grams, 1, MOST_GRAMS);
        checkAtHome(picture);
        if (layerCounts[picture] >= MOST_LAYERS) {
            throw new IllegalStateException("no more layers");
        }
        if (!move(potRow(pot), layerRow(picture, layerCounts[picture]), grams)) {
            throw new IllegalStateException("the pot has not so much");
        }
        layerCounts[picture]++;
        return layerCounts[picture];
    }

    /** Takes the uppermost layers off a picture; returns what is wasted by that. */
    public int clean(int picture, int layers)
            throws IndexOutOfBoundsException, IllegalArgumentException, IllegalStateException {
        checkNumber(picture, pictureCount);
        checkRange(layers, 1, MOST_LAYERS);
        checkAtHome(picture);
        if (layerCounts[picture] < layers) {
            throw new IllegalStateException("the picture has not so many layers");
        }
        int wasted = 0;
        for (int taken = 0; taken < layers; taken++) {
            layerCounts[picture]--;
            wasted += waste(layerRow(picture, layerCounts[picture]));
        }
        return wasted;
    }

    // ---- loans, sales

    /** Sets the damp of a house; returns the damp before. */
    public int damp(int house, int damp)
            throws IndexOutOfBoundsException, IllegalArgumentException {
        checkNumber(house, HOUSES);
        checkRange(damp, DRIEST, DAMPEST);
        int before = houseDamps[house];
        houseDamps[house] = damp;
        return before;
    }

    /** Lends a picture; returns what each day costs the house. */
    public int lend(int picture, int house, int days)
            throws IndexOutOfBoundsException, IllegalArgumentException, IllegalStateException {
        checkNumber(picture, pictureCount);
        checkNumber(house, HOUSES);
        checkRange(days, 1, MOST_DAYS);
        checkAtHome(picture);
        if (crackCounts[picture] >= CRACKS_THAT_KEEP_HOME) {
            throw new IllegalStateException("the picture has too many cracks");
        }
        // The cost is fixed here: later sales and cracks do not change that of a loan.
        loanCosts[picture] = valueOf(picture) / LOAN_DIVISOR + 1;
        loanHouses[picture] = house;
        loanDays[picture] = days;
        return loanCosts[picture];
    }

    /** Tells a sale; returns the picture's value then. */
    public int sell(int picture, int price)
            throws IndexOutOfBoundsException, IllegalArgumentException, IllegalStateException {
        checkNumber(picture, pictureCount);
        checkRange(price, 1, MOST_PRICE);
        checkAtHome(picture);
        if (layerCounts[picture] == 0) {
            throw new IllegalStateException("the picture has no layer");
        }
        latestPrices[picture] = price;
        return valueOf(picture);
    }

    /** Lets days pass; returns the day then. */
    public int pass(int days) throws IllegalArgumentException, IllegalStateException {
        checkRange(days, 1, MOST_DAYS);
        if (today + days > LAST_DAY) {
            throw new IllegalStateException("the book ends before that day");
        }
        for (int picture = 0; picture < pictureCount; picture++) {
            passForLoan(picture, days);
        }
        today += days;
        return today;
    }

    // ---- what is asked

    /** Returns what is left in a tube. */
    public int left(int tube) throws IndexOutOfBoundsException {
        checkNumber(tube, tubeCount);
        return gramsInTube[tube];
    }

    /** Returns what a pot has of a tube, or of all with NONE. */
    public int has(int pot, int tube) throws IndexOutOfBoundsException {
        checkNumber(pot, potCount);
        if (tube == NONE) {
            return sumOfRow(potRow(pot));
        }
        checkNumber(tube, tubeCount);
        return ledger[place(potRow(pot), tube)];
    }

    /** Returns the colour of a pot: 0 red, 1 green, 2 blue; NONE of an empty one. */
    public int colour(int pot, int what)
            throws IndexOutOfBoundsException, IllegalArgumentException {
        checkNumber(pot, potCount);
        checkRange(what, 0, CHANNELS - 1);
        return colourOfRow(potRow(pot), what);
    }

    /** Tells something of a picture, by the numbers of the document. */
    public int of(int picture, int what)
            throws IndexOutOfBoundsException, IllegalArgumentException {
        checkNumber(picture, pictureCount);
        checkRange(what, LAYERS, LOOK_BLUE);
        switch (what) {
            case LAYERS:
                return layerCounts[picture];
            case CRACKS:
                return crackCounts[picture];
            case VALUE:
                return valueOf(picture);
            case MAIN_PIGMENT:
                return mainPigmentOf(picture);
            case HOUSE:
                return isLent(picture) ? loanHouses[picture] : NONE;
            case DAYS_YET:
                return loanDays[picture];
            default:
                return lookOf(picture, what - LOOK_RED);
        }
    }

    /** Returns what a layer of a picture has of a tube. */
    public int layer(int picture, int layer, int tube) throws IndexOutOfBoundsException {
        checkNumber(picture, pictureCount);
        checkNumber(layer, layerCounts[picture]);
        checkNumber(tube, tubeCount);
        return ledger[place(layerRow(picture, layer), tube)];
    }

    /** Returns where the grams of a tube are: 0 in it, 1 in pots, 2 on pictures, 3 wasted. */
    public int where(int tube, int what)
            throws IndexOutOfBoundsException, IllegalArgumentException {
        checkNumber(tube, tubeCount);
        checkRange(what, IN_TUBE, WASTED);
        switch (what) {
            case IN_TUBE:
                return gramsInTube[tube];
            case IN_POTS:
                return sumOfTube(tube, 0, FIRST_LAYER_ROW);
            case ON_PICTURES:
                return sumOfTube(tube, FIRST_LAYER_ROW, WASTE_ROW);
            default:
                return sumOfTube(tube, WASTE_ROW, ROWS);
        }
    }

    /**
     * Returns the recipe nearest to a sample: 1000 times the first tube, 10 times the second one
     * and the parts of the first one, together; NONE without tubes with grams left.
     */
    public int recipe(int red, int green, int blue) throws IllegalArgumentException {
        checkColour(red, green, blue);
        int best = NONE;
        int least = 0;
        for (int first = 0; first < tubeCount; first++) {
            for (int second = first; second < tubeCount; second++) {
                if (gramsInTube[first] == 0 || gramsInTube[second] == 0) {
                    continue;
                }
                for (int parts = 0; parts <= PARTS; parts++) {
                    int distance = square(mixed(first, second, parts, 0) - red)
                            + square(mixed(first, second, parts, 1) - green)
                            + square(mixed(first, second, parts, 2) - blue);
                    // The order of the loops is that of preference, so only nearer ones count.
                    if (best == NONE || distance < least) {
                        best = 1000 * first + 10 * second + parts;
                        least = distance;
                    }
                }
            }
        }
        return best;
    }

    /** Returns all that a house has paid. */
    public int paid(int house) throws IndexOutOfBoundsException {
        checkNumber(house, HOUSES);
        return housePayments[house];
    }

    // ---- what is refused

    private static void checkNumber(int number, int count) throws IndexOutOfBoundsException {
        if (number < 0 || number >= count) {
            throw new IndexOutOfBoundsException("there is no such number");
        }
    }

    private static void checkRange(int value, int least, int most)
            throws IllegalArgumentException {
        if (value < least || value > most) {
            throw new IllegalArgumentException("out of range");
        }
    }

    private static void checkColour(int red, int green, int blue)
            throws IllegalArgumentException {
        checkRange(red, 0, BRIGHTEST);
        checkRange(green, 0, BRIGHTEST);
        checkRange(blue, 0, BRIGHTEST);
    }

    private void checkAtHome(int picture) throws IllegalStateException {
        if (isLent(picture)) {
            throw new IllegalStateException("the picture is lent");
        }
    }

    // ---- the ledger

    private static int potRow(int pot) {
        return pot;
    }

    private static int layerRow(int picture, int layer) {
        return FIRST_LAYER_ROW + picture * MOST_LAYERS + layer;
    }

    private static int place(int row, int tube) {
        return row * MOST_TUBES + tube;
    }

    private int sumOfRow(int row) {
        int sum = 0;
        for (int tube = 0; tube < tubeCount; tube++) {
            sum += ledger[place(row, tube)];
        }
        return sum;
    }

    private int sumOfTube(int tube, int firstRow, int endRow) {
        int sum = 0;
        for (int row = firstRow; row < endRow; row++) {
            sum += ledger[place(row, tube)];
        }
        return sum;
    }

    /** Moves grams of a row to another one; false, with nothing moved, if it has not so much. */
    private boolean move(int from, int to, int grams) {
        int all = sumOfRow(from);
        if (all < 1 || all < grams) {
            return false;
        }
        int lower = 0;
        for (int tube = 0; tube < tubeCount; tube++) {
            int own = ledger[place(from, tube)];
            // The difference of two shares, each rounded down, makes the takings sum up to grams.
            int taken = (lower + own) * grams / all - lower * grams / all;
            ledger[place(from, tube)] -= taken;
            ledger[place(to, tube)] += taken;
            lower += own;
        }
        return true;
    }

    /** Moves all of a row to the waste; returns how much that was. */
    private int waste(int row) {
        int wasted = 0;
        for (int tube = 0; tube < tubeCount; tube++) {
            int grams = ledger[place(row, tube)];
            ledger[place(row, tube)] = 0;
            ledger[place(WASTE_ROW, tube)] += grams;
            wasted += grams;
        }
        return wasted;
    }

    // ---- colours

    private int colourOfTube(int tube, int channel) {
        return pigmentColours[pigmentOfTube[tube] * CHANNELS + channel];
    }

    private int colourOfRow(int row, int channel) {
        int all = 0;
        int sum = 0;
        for (int tube = 0; tube < tubeCount; tube++) {
            int grams = ledger[place(row, tube)];
            all += grams;
            sum += grams * colourOfTube(tube, channel);
        }
        return all == 0 ? NONE : sum / all;
    }

    private int gramsOfPigment(int row, int pigment) {
        int sum = 0;
        for (int tube = 0; tube < tubeCount; tube++) {
            if (pigmentOfTube[tube] == pigment) {
                sum += ledger[place(row, tube)];
            }
        }
        return sum;
    }

    private int mainPigmentOfRow(int row) {
        int main = NONE;
        int most = 0;
        for (int pigment = 0; pigment < pigmentCount; pigment++) {
            int grams = gramsOfPigment(row, pigment);
            if (grams > most) {
                main = pigment;
                most = grams;
            }
        }
        return main;
    }

    private int mixed(int first, int second, int parts, int channel) {
        return (parts * colourOfTube(first, channel)
                + (PARTS - parts) * colourOfTube(second, channel)) / PARTS;
    }

    private static int square(int number) {
        return number * number;
    }

    // ---- what a picture is

    private boolean isLent(int picture) {
        return loanDays[picture] > 0;
    }

    private int mainPigmentOf(int picture) {
        int layers = layerCounts[picture];
        return layers == 0 ? NONE : mainPigmentOfRow(layerRow(picture, layers - 1));
    }

    private int lookOf(int picture, int channel) {
        int layers = layerCounts[picture];
        return layers == 0 ? NONE : colourOfRow(layerRow(picture, layers - 1), channel);
    }

    private int valueOf(int picture) {
        int uncracked = averagePriceOfAlike(picture);
        return Math.max(0, uncracked - crackCounts[picture] * (uncracked / CRACK_DIVISOR));
    }

    private int averagePriceOfAlike(int picture) {
        int main = mainPigmentOf(picture);
        // A picture without a layer is alike none, not even itself.
        if (main == NONE) {
            return 0;
        }
        int sum = 0;
        int sold = 0;
        for (int other = 0; other < pictureCount; other++) {
            if (latestPrices[other] > 0 && mainPigmentOf(other) == main) {
                sum += latestPrices[other];
                sold++;
            }
        }
        return sold == 0 ? 0 : sum / sold;
    }

    private void passForLoan(int picture, int days) {
        int lent = Math.min(days, loanDays[picture]);
        int house = loanHouses[picture];
        if (Math.abs(houseDamps[house] - MIDDLE_DAMP) > HARMLESS_DAMP) {
            crackCounts[picture] += lent;
        }
        housePayments[house] += lent * loanCosts[picture];
        loanDays[picture] -= lent;
    }
}
