import java.util.ArrayList;
import java.util.List;

/**
 * A run of calls on a new book, for one sentence of the document. It is told as text, so that it
 * can be played again: a call that must change nothing is played on one of two books that are
 * alike, and then both are asked, and used, in every way. No book is used for more calls than the
 * document promises.
 */
final class Run {
    private static final int MOST_CALLS = 512;
    private static final List<List<String>> PROBES = probes();

    private final String sentence;
    private final List<String> calls = new ArrayList<>();
    private final AtelierBook book = new AtelierBook();

    private Run(String sentence) {
        this.sentence = sentence;
    }

    /** A run for a sentence, begun with the calls of a script that ";" parts. */
    static Run of(String sentence, String script) {
        return new Run(sentence).then(script);
    }

    /** Makes calls that nothing refuses, whatever they answer. */
    Run then(String script) {
        for (String call : script.split(";")) {
            if (!call.isBlank()) {
                String answer = play(call.trim());
                Checks.same(told(call), false, answer.endsWith("Exception"));
            }
        }
        return this;
    }

    /** Makes the same call so many times. */
    Run times(int times, String call) {
        for (int time = 0; time < times; time++) {
            then(call);
        }
        return this;
    }

    Run due(String call, int answer) {
        Checks.same(told(call), Integer.toString(answer), play(call));
        return this;
    }

    /** The answers of some calls alike, one behind the other. */
    Run dues(String call, int first, int last, String answers) {
        StringBuilder got = new StringBuilder();
        for (int argument = first; argument <= last; argument++) {
            got.append(got.length() == 0 ? "" : " ").append(play(call + " " + argument));
        }
        Checks.same(told(call + " " + first + " to " + last), answers, got.toString());
        return this;
    }

    int ask(String call) {
        String answer = play(call);
        Checks.same(told(call), true, answer.matches("-?[0-9]+"));
        return answer.matches("-?[0-9]+") ? Integer.parseInt(answer) : 0;
    }

    /** Each of the calls throws just this exception, and nothing has changed. */
    Run refused(Class<? extends RuntimeException> due, String... refusedCalls) {
        for (String call : refusedCalls) {
            unchanged(call, due.getSimpleName());
        }
        return this;
    }

    /** As refused, for an argument, told as "#", just out of a range and as far out as can be. */
    Run beyond(Class<? extends RuntimeException> due, String call, int below, int above) {
        for (int bad : new int[] {Integer.MIN_VALUE, below, above, Integer.MAX_VALUE}) {
            refused(due, call.replace("#", Integer.toString(bad)));
        }
        return this;
    }

    /** Each of the calls answers as it is, and nothing has changed. */
    Run unchanged(String... questions) {
        for (String call : questions) {
            unchanged(call, null);
        }
        return this;
    }

    private void unchanged(String call, String due) {
        for (List<String> probe : PROBES) {
            AtelierBook without = played();
            AtelierBook with = played();
            String answer = Calls.answer(with, call);
            if (due != null) {
                Checks.same(told(call), due, answer);
            }
            Checks.same(told("nothing changes by " + call), answers(without, probe),
                    answers(with, probe));
        }
        // It goes on with the call, so that what follows in the test sees its traces, too.
        play(call);
    }

    private String play(String call) {
        calls.add(call);
        checkLength(calls.size());
        return Calls.answer(book, call);
    }

    private AtelierBook played() {
        AtelierBook again = new AtelierBook();
        for (String call : calls) {
            Calls.answer(again, call);
        }
        return again;
    }

    private String answers(AtelierBook of, List<String> probe) {
        checkLength(calls.size() + 1 + probe.size());
        StringBuilder all = new StringBuilder();
        for (String call : probe) {
            String answer = Calls.answer(of, call);
            if (!isDueKind(answer)) {
                Checks.same(told(call), "a number, or what the document names", answer);
            }
            all.append(call).append(": ").append(answer).append("; ");
        }
        return all.toString();
    }

    /** What the machine throws itself has another name, and so is never of these. */
    private static boolean isDueKind(String answer) {
        return answer.equals(Checks.INDEX.getSimpleName())
                || answer.equals(Checks.ARGUMENT.getSimpleName())
                || answer.equals(Checks.STATE.getSimpleName())
                || !answer.isEmpty() && !Character.isLetter(answer.charAt(0));
    }

    private void checkLength(int length) {
        if (length > MOST_CALLS) {
            throw new AssertionError("a run too long: " + sentence);
        }
    }

    private String told(String call) {
        return "\"" + sentence + "\": " + call.trim();
    }

    private static List<List<String>> probes() {
        List<List<String>> all = new ArrayList<>();
        all.add(ofTubes());
        all.add(ofPots());
        all.add(ofPictures());
        for (int picture = 0; picture < 8; picture++) {
            all.add(ofLayers(picture));
        }
        all.add(ofRoomYet());
        all.add(ofPigments());
        all.add(ofDays());
        all.add(ofPrices());
        all.add(ofColours());
        return all;
    }

    private static List<String> ofTubes() {
        List<String> calls = new ArrayList<>();
        for (int tube = 0; tube <= 12; tube++) {
            calls.add("left " + tube);
            for (int what = 0; what < 4; what++) {
                calls.add("where " + tube + " " + what);
            }
        }
        return calls;
    }

    private static List<String> ofPots() {
        List<String> calls = new ArrayList<>();
        for (int pot = 0; pot <= 10; pot++) {
            for (int tube = -1; tube < 12; tube++) {
                calls.add("has " + pot + " " + tube);
            }
        }
        return calls;
    }

    private static List<String> ofPictures() {
        List<String> calls = new ArrayList<>();
        for (int picture = 0; picture <= 8; picture++) {
            for (int what = 0; what < 9; what++) {
                calls.add("of " + picture + " " + what);
            }
        }
        return calls;
    }

    private static List<String> ofLayers(int picture) {
        List<String> calls = new ArrayList<>();
        for (int layer = 0; layer < 12; layer++) {
            for (int tube = 0; tube < 12; tube++) {
                calls.add("layer " + picture + " " + layer + " " + tube);
            }
        }
        return calls;
    }

    /** How many of each there may be yet. */
    private static List<String> ofRoomYet() {
        List<String> calls = new ArrayList<>();
        for (int more = 0; more < 13; more++) {
            calls.add("pigment 1 2 3");
            calls.add("tube 0 1");
            calls.add("pot");
            calls.add("picture");
        }
        return calls;
    }

    /** The colours of the pigments of which there is no tube yet, of new tubes. */
    private static List<String> ofPigments() {
        List<String> calls = new ArrayList<>();
        calls.add("pot");
        for (int pigment = 0; pigment < 6; pigment++) {
            calls.add("tube " + pigment + " 1");
        }
        for (int tube = 0; tube < 12; tube++) {
            calls.add("scrape 0");
            calls.add("squeeze 0 " + tube + " 1");
            for (int what = 0; what < 3; what++) {
                calls.add("colour 0 " + what);
            }
        }
        return calls;
    }

    /** The day, the days of the loans, what they cost, the damps and what they do. */
    private static List<String> ofDays() {
        List<String> calls = new ArrayList<>();
        for (int day = 0; day < 3; day++) {
            calls.add("pass 1");
            for (int house = 0; house <= 4; house++) {
                calls.add("paid " + house);
            }
            for (int picture = 0; picture < 8; picture++) {
                calls.add("of " + picture + " 1");
                calls.add("of " + picture + " 4");
                calls.add("of " + picture + " 5");
            }
        }
        for (int house = 0; house < 4; house++) {
            calls.add("damp " + house + " 50");
        }
        return calls;
    }

    /** The latest sales, those of bare pictures, too, which show as they have a layer again. */
    private static List<String> ofPrices() {
        List<String> calls = new ArrayList<>();
        calls.add("pass 100");
        for (int picture = 0; picture < 8; picture++) {
            for (int pot = 0; pot < 4; pot++) {
                calls.add("paint " + picture + " " + pot + " 1");
            }
            calls.add("of " + picture + " 2");
            calls.add("clean " + picture + " 1");
        }
        return calls;
    }

    private static List<String> ofColours() {
        List<String> calls = new ArrayList<>();
        for (int pot = 0; pot <= 10; pot++) {
            for (int what = 0; what < 3; what++) {
                calls.add("colour " + pot + " " + what);
            }
        }
        for (int mix = 0; mix < 8; mix++) {
            calls.add("recipe " + mix % 2 * 255 + " " + mix / 2 % 2 * 255 + " " + mix / 4 * 255);
        }
        for (int house = 0; house < 4; house++) {
            calls.add("paid " + house);
        }
        return calls;
    }
}
