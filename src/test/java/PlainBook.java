import java.util.ArrayList;
import java.util.List;
import java.util.TreeMap;

/**
 * The document read once more, the plain and slow way: lists, maps and one day after the other.
 * A call answers its number, or the name of what it throws.
 */
final class PlainBook {
    private static final String INDEX = "IndexOutOfBoundsException";
    private static final String ARGUMENT = "IllegalArgumentException";
    private static final String STATE = "IllegalStateException";

    private static final class Tube {
        int pigment;
        int left;
    }

    private static final class Picture {
        final List<TreeMap<Integer, Integer>> layers = new ArrayList<>();
        int cracks;
        Integer price;
        Integer house;
        int days;
        int cost;
    }

    private final List<int[]> pigments = new ArrayList<>();
    private final List<Tube> tubes = new ArrayList<>();
    private final List<TreeMap<Integer, Integer>> pots = new ArrayList<>();
    private final List<Picture> pictures = new ArrayList<>();
    private final TreeMap<Integer, Integer> wasted = new TreeMap<>();
    private final int[] damps = {50, 50, 50, 50};
    private final int[] paid = {0, 0, 0, 0};
    private int day = 0;

    /** The answer to the call of that name with these arguments, as many as it takes. */
    String call(String name, int a, int b, int c) {
        switch (name) {
            case "pigment": return pigment(a, b, c);
            case "tube": return tube(a, b);
            case "pot": return pot();
            case "squeeze": return squeeze(a, b, c);
            case "pour": return pour(a, b, c);
            case "scrape": return isNone(a, pots) ? INDEX : text(waste(pots.get(a)));
            case "picture": return picture();
            case "paint": return paint(a, b, c);
            case "clean": return clean(a, b);
            case "damp": return damp(a, b);
            case "lend": return lend(a, b, c);
            case "sell": return sell(a, b);
            case "pass": return pass(a);
            case "left": return isNone(a, tubes) ? INDEX : text(tubes.get(a).left);
            case "has": return has(a, b);
            case "colour": return colour(a, b);
            case "of": return of(a, b);
            case "layer": return layer(a, b, c);
            case "where": return where(a, b);
            case "recipe": return recipe(a, b, c);
            case "paid": return a < 0 || a > 3 ? INDEX : text(paid[a]);
            default: throw new AssertionError(name);
        }
    }

    private String pigment(int red, int green, int blue) {
        if (isNoColour(red) || isNoColour(green) || isNoColour(blue)) {
            return ARGUMENT;
        }
        if (pigments.size() == 6) {
            return STATE;
        }
        pigments.add(new int[] {red, green, blue});
        return text(pigments.size() - 1);
    }

    private String tube(int pigment, int grams) {
        if (isNone(pigment, pigments)) {
            return INDEX;
        }
        if (grams < 1 || grams > 1000) {
            return ARGUMENT;
        }
        if (tubes.size() == 12) {
            return STATE;
        }
        Tube tube = new Tube();
        tube.pigment = pigment;
        tube.left = grams;
        tubes.add(tube);
        return text(tubes.size() - 1);
    }

    private String pot() {
        if (pots.size() == 10) {
            return STATE;
        }
        pots.add(new TreeMap<>());
        return text(pots.size() - 1);
    }

    private String squeeze(int pot, int tube, int grams) {
        if (isNone(pot, pots) || isNone(tube, tubes)) {
            return INDEX;
        }
        if (grams < 1 || grams > 1000) {
            return ARGUMENT;
        }
        if (tubes.get(tube).left < grams) {
            return STATE;
        }
        tubes.get(tube).left -= grams;
        pots.get(pot).merge(tube, grams, Integer::sum);
        return text(tubes.get(tube).left);
    }

    private String pour(int pot, int other, int grams) {
        if (isNone(pot, pots) || isNone(other, pots)) {
            return INDEX;
        }
        if (pot == other || grams < 1 || grams > 12000) {
            return ARGUMENT;
        }
        if (sum(pots.get(pot)) < grams) {
            return STATE;
        }
        poured(pots.get(pot), grams).forEach((t, g) -> pots.get(other).merge(t, g, Integer::sum));
        return text(sum(pots.get(other)));
    }

    private String picture() {
        if (pictures.size() == 8) {
            return STATE;
        }
        pictures.add(new Picture());
        return text(pictures.size() - 1);
    }

    private String paint(int number, int pot, int grams) {
        if (isNone(number, pictures) || isNone(pot, pots)) {
            return INDEX;
        }
        if (grams < 1 || grams > 1000) {
            return ARGUMENT;
        }
        Picture picture = pictures.get(number);
        if (picture.house != null || picture.layers.size() == 12 || sum(pots.get(pot)) < grams) {
            return STATE;
        }
        picture.layers.add(poured(pots.get(pot), grams));
        return text(picture.layers.size());
    }

    private String clean(int number, int layers) {
        if (isNone(number, pictures)) {
            return INDEX;
        }
        if (layers < 1 || layers > 12) {
            return ARGUMENT;
        }
        Picture picture = pictures.get(number);
        if (picture.house != null || picture.layers.size() < layers) {
            return STATE;
        }
        int all = 0;
        for (int i = 0; i < layers; i++) {
            all += waste(picture.layers.remove(picture.layers.size() - 1));
        }
        return text(all);
    }

    private String damp(int house, int damp) {
        if (house < 0 || house > 3) {
            return INDEX;
        }
        if (damp < 0 || damp > 100) {
            return ARGUMENT;
        }
        int before = damps[house];
        damps[house] = damp;
        return text(before);
    }

    private String lend(int number, int house, int days) {
        if (isNone(number, pictures) || house < 0 || house > 3) {
            return INDEX;
        }
        if (days < 1 || days > 100) {
            return ARGUMENT;
        }
        Picture picture = pictures.get(number);
        if (picture.house != null || picture.cracks >= 10) {
            return STATE;
        }
        picture.house = house;
        picture.days = days;
        picture.cost = value(picture) / 100 + 1;
        return text(picture.cost);
    }

    private String sell(int number, int price) {
        if (isNone(number, pictures)) {
            return INDEX;
        }
        if (price < 1 || price > 100000) {
            return ARGUMENT;
        }
        Picture picture = pictures.get(number);
        if (picture.house != null || picture.layers.isEmpty()) {
            return STATE;
        }
        picture.price = price;
        return text(value(picture));
    }

    private String pass(int days) {
        if (days < 1 || days > 100) {
            return ARGUMENT;
        }
        if (day + days > 5000) {
            return STATE;
        }
        for (int i = 0; i < days; i++) {
            pictures.forEach(this::passADay);
            day++;
        }
        return text(day);
    }

    private void passADay(Picture picture) {
        if (picture.house == null) {
            return;
        }
        if (damps[picture.house] < 40 || damps[picture.house] > 60) {
            picture.cracks++;
        }
        paid[picture.house] += picture.cost;
        picture.days--;
        if (picture.days == 0) {
            picture.house = null;
        }
    }

    private String has(int pot, int tube) {
        if (isNone(pot, pots) || tube != -1 && isNone(tube, tubes)) {
            return INDEX;
        }
        return text(tube == -1 ? sum(pots.get(pot)) : pots.get(pot).getOrDefault(tube, 0));
    }

    private String colour(int pot, int what) {
        if (isNone(pot, pots)) {
            return INDEX;
        }
        return what < 0 || what > 2 ? ARGUMENT : text(colour(pots.get(pot), what));
    }

    private String of(int number, int what) {
        if (isNone(number, pictures)) {
            return INDEX;
        }
        Picture picture = pictures.get(number);
        switch (what) {
            case 0: return text(picture.layers.size());
            case 1: return text(picture.cracks);
            case 2: return text(value(picture));
            case 3: return text(mainPigment(look(picture)));
            case 4: return text(picture.house == null ? -1 : picture.house);
            case 5: return text(picture.days);
            case 6: return text(colour(look(picture), 0));
            case 7: return text(colour(look(picture), 1));
            case 8: return text(colour(look(picture), 2));
            default: return ARGUMENT;
        }
    }

    private String layer(int number, int layer, int tube) {
        if (isNone(number, pictures) || isNone(layer, pictures.get(number).layers)
                || isNone(tube, tubes)) {
            return INDEX;
        }
        return text(pictures.get(number).layers.get(layer).getOrDefault(tube, 0));
    }

    private String where(int tube, int what) {
        if (isNone(tube, tubes)) {
            return INDEX;
        }
        switch (what) {
            case 0: return text(tubes.get(tube).left);
            case 1: return text(pots.stream().mapToInt(p -> p.getOrDefault(tube, 0)).sum());
            case 2: return text(pictures.stream().flatMap(p -> p.layers.stream())
                    .mapToInt(l -> l.getOrDefault(tube, 0)).sum());
            case 3: return text(wasted.getOrDefault(tube, 0));
            default: return ARGUMENT;
        }
    }

    private String recipe(int red, int green, int blue) {
        if (isNoColour(red) || isNoColour(green) || isNoColour(blue)) {
            return ARGUMENT;
        }
        int[] sample = {red, green, blue};
        TreeMap<Long, Integer> byDistance = new TreeMap<>();
        for (int first = 0; first < tubes.size(); first++) {
            for (int second = first; second < tubes.size(); second++) {
                for (int parts = 0; parts <= 4; parts++) {
                    if (tubes.get(first).left > 0 && tubes.get(second).left > 0) {
                        byDistance.putIfAbsent(distance(first, second, parts, sample),
                                1000 * first + 10 * second + parts);
                    }
                }
            }
        }
        return text(byDistance.isEmpty() ? -1 : byDistance.firstEntry().getValue());
    }

    private long distance(int first, int second, int parts, int[] sample) {
        long sum = 0;
        for (int what = 0; what < 3; what++) {
            int one = pigments.get(tubes.get(first).pigment)[what];
            int two = pigments.get(tubes.get(second).pigment)[what];
            long apart = (parts * one + (4 - parts) * two) / 4 - sample[what];
            sum += apart * apart;
        }
        return sum;
    }

    /** Takes grams of a mix by the document's sharing; returns what was taken. */
    private static TreeMap<Integer, Integer> poured(TreeMap<Integer, Integer> mix, int grams) {
        long all = sum(mix);
        long lower = 0;
        TreeMap<Integer, Integer> taken = new TreeMap<>();
        for (int tube : mix.keySet()) {
            long own = mix.get(tube);
            taken.put(tube, (int) ((lower + own) * grams / all - lower * grams / all));
            lower += own;
        }
        taken.forEach((t, g) -> mix.merge(t, -g, Integer::sum));
        return taken;
    }

    private int waste(TreeMap<Integer, Integer> mix) {
        int all = sum(mix);
        mix.forEach((t, g) -> wasted.merge(t, g, Integer::sum));
        mix.clear();
        return all;
    }

    private int value(Picture picture) {
        int main = mainPigment(look(picture));
        long sum = 0;
        int sold = 0;
        for (Picture other : pictures) {
            if (main != -1 && other.price != null && mainPigment(look(other)) == main) {
                sum += other.price;
                sold++;
            }
        }
        long value = sold == 0 ? 0 : sum / sold;
        long loss = value / 20;
        for (int crack = 0; crack < picture.cracks; crack++) {
            value = Math.max(0, value - loss);
        }
        return (int) value;
    }

    private static TreeMap<Integer, Integer> look(Picture picture) {
        int layers = picture.layers.size();
        return layers == 0 ? new TreeMap<>() : picture.layers.get(layers - 1);
    }

    private int mainPigment(TreeMap<Integer, Integer> mix) {
        int[] grams = new int[6];
        mix.forEach((t, g) -> grams[tubes.get(t).pigment] += g);
        int main = 0;
        for (int pigment = 1; pigment < 6; pigment++) {
            main = grams[pigment] > grams[main] ? pigment : main;
        }
        return grams[main] == 0 ? -1 : main;
    }

    private int colour(TreeMap<Integer, Integer> mix, int what) {
        long sum = 0;
        for (int tube : mix.keySet()) {
            sum += (long) mix.get(tube) * pigments.get(tubes.get(tube).pigment)[what];
        }
        return sum(mix) == 0 ? -1 : (int) (sum / sum(mix));
    }

    private static int sum(TreeMap<Integer, Integer> mix) {
        return mix.values().stream().mapToInt(g -> g).sum();
    }

    private static boolean isNone(int number, List<?> all) {
        return number < 0 || number >= all.size();
    }

    private static boolean isNoColour(int colour) {
        return colour < 0 || colour > 255;
    }

    private static String text(int number) {
        return Integer.toString(number);
    }
}
