import java.io.IOException;
import java.nio.file.Files;
import java.nio.file.Path;
import java.util.ArrayList;
import java.util.List;
import java.util.Map;
import java.util.TreeMap;
import java.util.regex.Matcher;
import java.util.regex.Pattern;

/**
 * What the tests of the boundary cases share. Each test names the sentence of the document that it
 * holds the class to; at the end the named sentences are compared with the document itself, so that
 * no sentence is left without a test and no test speaks of a sentence that isn't there.
 */
abstract class BoundaryCheck {
    static final int NO_SUCH_LAYER = -1000000001;
    static final int BAD_VALUE = -1000000002;
    static final int NOT_POSSIBLE = -1000000003;
    static final int FULL = -1000000004;
    static final int NONE = -1000000005;
    static final int MIN = Integer.MIN_VALUE;
    static final int MAX = Integer.MAX_VALUE;

    /** Places in the document; the promises stand under their own numbers. */
    static final int WHAT_IT_IS = -1;
    static final int TERMS = 0;
    private static final int PROMISES = 41;

    private static final Path DOCUMENT = Path.of("../shared/DOC.md");
    private static final Pattern SIGNATURE = Pattern.compile("`(int )?\\w+\\([^`]*\\)`:");

    /** Makes the same object at each call. */
    interface Scene {
        IceCoreDater make();
    }

    interface Call {
        int on(IceCoreDater x);
    }

    interface LayerCall {
        int on(IceCoreDater x, int layer);
    }

    private static final Map<Integer, List<String>> NAMED = new TreeMap<>();
    private static int wrong = 0;
    private static int sentences = 0;
    private static int checks = 0;
    private static int place = TERMS;
    private static String words = "";

    // ---- sentences

    /** The checks that follow hold the class to these words. */
    static void sentence(int itsPlace, String itsWords) {
        closeSentence();
        name(itsPlace, itsWords);
        sentences++;
        checks = 0;
        place = itsPlace;
        words = itsWords;
    }

    /** Words of the document that name no boundary case: a definition, a unit, a heading. */
    static void plain(int itsPlace, String itsWords) {
        name(itsPlace, itsWords);
    }

    private static void name(int itsPlace, String itsWords) {
        NAMED.computeIfAbsent(itsPlace, key -> new ArrayList<>()).add(itsWords);
    }

    private static void closeSentence() {
        if (sentences > 0 && checks == 0) {
            fault("nothing is checked");
        }
    }

    private static void fault(String what) {
        wrong++;
        String where = place == TERMS ? "Terms" : place == WHAT_IT_IS ? "What it is" : "Promise " + place;
        System.out.println(where + ", \"" + words + "\": " + what);
    }

    /** The number of faults in all. */
    static int close() throws IOException {
        closeSentence();
        if (Files.exists(DOCUMENT)) {
            compareWithDocument(Files.readString(DOCUMENT));
        } else {
            System.out.println("the document is not there, the sentences are not compared with it");
        }
        System.out.println("BoundaryTests: " + sentences + " sentences, " + (wrong == 0 ? "all hold" : wrong + " faults"));
        return wrong;
    }

    private static void compareWithDocument(String document) {
        for (int at = WHAT_IT_IS; at <= PROMISES; at++) {
            String heading = at == TERMS ? "## Terms\n" : at == WHAT_IT_IS ? "## What it is\n" : "## Promise " + at + ":";
            place = at;
            words = heading.trim();
            int start = document.indexOf(heading);
            if (start < 0) {
                fault("the document has no such part");
                continue;
            }
            int from = document.indexOf('\n', start);
            int to = document.indexOf("\n## ", from);
            compareWithPart(at, document.substring(from, to < 0 ? document.length() : to).replaceAll("\\s+", " "));
        }
    }

    private static void compareWithPart(int at, String part) {
        String rest = part;
        for (String named : NAMED.getOrDefault(at, List.of())) {
            words = named;
            if (!part.contains(named)) {
                fault("the document does not say this");
            }
            rest = rest.replaceFirst(Pattern.quote(named), Matcher.quoteReplacement("\n"));
        }
        for (String left : SIGNATURE.matcher(rest).replaceAll("\n").split("\n")) {
            if (left.matches(".*[A-Za-z0-9].*")) {
                words = left.trim();
                fault("no test names these words");
            }
        }
    }

    // ---- checks

    static void due(String call, long got, long want) {
        checks++;
        if (got != want) {
            fault(call + " answered " + got + ", due is " + want);
        }
    }

    static void dueAll(String call, int[] arguments, LayerCall asked, IceCoreDater x, int... want) {
        due("answers that are told for " + call, want.length, arguments.length);
        for (int i = 0; i < arguments.length && i < want.length; i++) {
            due(call + "(" + arguments[i] + ")", asked.on(x, arguments[i]), want[i]);
        }
    }

    static void same(String what, String got, String want) {
        checks++;
        if (!got.equals(want)) {
            fault(what + "\n    " + want + "\n    has become\n    " + got);
        }
    }

    /** The call answers the error, and nothing that can be read of the object has changed. */
    static void refused(String call, Scene scene, Call refusedCall, int error) {
        due(call, refusedCall.on(scene.make()), error);
        same(call + " changes something", reading(() -> after(scene, refusedCall), true), reading(scene, true));
    }

    /** The call answers no error, and nothing that can be read of the object has changed. */
    static void changesNothing(String call, Scene scene, Call question) {
        same(call + " changes something", reading(() -> after(scene, question), true), reading(scene, true));
    }

    /** The call is counted once, and one undo() takes back all of it. */
    static void act(String call, Scene scene, Call act) {
        IceCoreDater before = scene.make();
        int acts = before.acts();
        int recorded = recordedStates(before);
        IceCoreDater x = scene.make();
        due(call + " answers no error", isError(act.on(x)) ? 1 : 0, 0);
        due("acts() after " + call, x.acts(), acts + 1);
        due("undo() of " + call, x.undo(), Math.min(7, recorded));
        due("acts() after undo() of " + call, x.acts(), acts + 1);
        if (recorded < 8) {
            Scene undone = () -> {
                IceCoreDater y = after(scene, act);
                y.undo();
                return y;
            };
            same("undo() of " + call + " leaves a change", reading(undone, false), reading(scene, false));
        }
    }

    static boolean isError(int answer) {
        return answer <= NO_SUCH_LAYER && answer >= FULL;
    }

    static IceCoreDater after(Scene scene, Call call) {
        IceCoreDater x = scene.make();
        call.on(x);
        return x;
    }

    /** Takes all recorded states back. */
    static int recordedStates(IceCoreDater x) {
        int recorded = 0;
        while (recorded < 100 && x.undo() != NONE) {
            recorded++;
        }
        return recorded;
    }

    /** Both ends of the layers' numbers, what lies beyond them, and a core without layers. */
    static void layerNumbers(int at, Scene scene, LayerCall call) {
        sentence(at, "`layer`: number of a layer");
        int layers = scene.make().layers();
        due("the call for layer 0", call.on(scene.make(), 0) == NO_SUCH_LAYER ? 1 : 0, 0);
        due("the call for the lowest layer", call.on(scene.make(), layers - 1) == NO_SUCH_LAYER ? 1 : 0, 0);
        sentence(at, "NO_SUCH_LAYER");
        for (int layer : new int[] {-1, layers, layers + 1, 15, 16, MIN, MAX}) {
            refused("the call for layer " + layer, scene, x -> call.on(x, layer), NO_SUCH_LAYER);
        }
        refused("the call for layer 0 without layers", IceCoreDater::new, x -> call.on(x, 0), NO_SUCH_LAYER);
        Scene removed = () -> {
            IceCoreDater x = scene.make();
            x.removeLowest();
            return x;
        };
        due("the call for a layer that was removed", call.on(removed.make(), layers - 1), NO_SUCH_LAYER);
    }

    /** Both ends of a range are taken. */
    static void range(int at, String itsWords, Scene scene, LayerCall call, int least, int greatest) {
        sentence(at, itsWords);
        for (int end : new int[] {least, greatest}) {
            due("the call with " + end + " answers an error", isError(call.on(scene.make(), end)) ? 1 : 0, 0);
        }
    }

    /** What lies beyond both ends of a range is refused. */
    static void beyond(int at, String itsWords, Scene scene, LayerCall call, int least, int greatest) {
        sentence(at, itsWords);
        for (int outside : new int[] {least - 1, greatest + 1, MIN, MAX}) {
            refused("the call with " + outside, scene, x -> call.on(x, outside), BAD_VALUE);
        }
    }

    // ---- readings

    /** All that can be read of an object: the state, and with "whole" also what undo() leaves alone. */
    static String reading(Scene scene, boolean whole) {
        StringBuilder all = new StringBuilder();
        if (whole) {
            showWhatUndoLeaves(scene, all);
        }
        int recorded = recordedStates(scene.make());
        all.append(" recorded ").append(recorded);
        for (int i = 0; i <= recorded; i++) {
            // What is shown last changes the object, so that each state needs a new one.
            IceCoreDater x = scene.make();
            for (int k = 0; k < i; k++) {
                all.append(" undo ").append(x.undo());
            }
            show(x, all);
            showSettings(x, all);
        }
        return all.toString();
    }

    private static void showWhatUndoLeaves(Scene scene, StringBuilder all) {
        IceCoreDater x = scene.make();
        all.append("failure ").append(x.failure()).append(" acts ").append(x.acts());
        all.append(" text ").append(x.clearText());
        x = scene.make();
        all.append(" run ").append(x.run()).append(' ').append(x.failure());
        show(x, all);
        showSettings(x, all);
    }

    private static void show(IceCoreDater x, StringBuilder all) {
        int[] whole = {x.layers(), x.depth(), x.fitting(), x.inversions(), x.seal(), x.bestFunction(), x.bestKink(),
            x.age(0), x.age(x.depth()), x.gasAge(x.depth()), x.depthOf(1), x.gasDepthOf(1), x.lead(x.depth(), 0)};
        all.append(" core");
        for (int value : whole) {
            all.append(' ').append(value);
        }
        for (int i = 0; i <= x.layers() && i <= 16; i++) {
            int[] ofLayer = {x.thickness(i), x.accumulation(i), x.correction(i), x.thinning(i), x.years(i), x.delay(i),
                x.residual(i), x.countError(i), x.neededAccumulation(i)};
            all.append(" layer");
            for (int value : ofLayer) {
                all.append(' ').append(value);
            }
        }
    }

    private static void showSettings(IceCoreDater x, StringBuilder all) {
        for (int i = 0; i < x.layers() && i < 16; i++) {
            all.append(" told ").append(x.tellThinning(i, 77));
        }
        all.append(" bed ").append(x.setBed(200000)).append(" function ").append(x.setFunction(0));
        all.append(" kink ").append(x.setKink(0)).append(" close-off ").append(x.setCloseOff(0));
    }

    // ---- objects to begin with

    /** Bottoms 2000, 5000 and 9000; years 101, 207 and 430; ages 101, 308 and 738; delays 350, 466 and 700. */
    static IceCoreDater threeLayers() {
        IceCoreDater x = new IceCoreDater();
        x.addLayer(2000, 200);
        x.addLayer(3000, 150);
        x.addLayer(4000, 100);
        return x;
    }

    /**
     * Something of everything, with six recorded states. The ages are 101, 331 and 761; the bed of
     * layer 0 just fits, the one of layer 1 just doesn't, so that other tolerances would be seen.
     */
    static IceCoreDater rich() {
        IceCoreDater x = new IceCoreDater();
        typed(x, "layer 2000 200;layer 3000 150;layer 4000 100;fix 1 900;bed 5");
        x.run();
        x.tellThinning(1, 400);
        x.setAsh(0, 106, 5);
        x.setAsh(1, 320, 10);
        x.setCount(2, 400);
        x.setKink(200);
        typed(x, "close 77;fix");
        return x;
    }

    /** As many years as centimeters in each layer, and a delay of as many years as the close-off depth. */
    static IceCoreDater yearly(int... thicknesses) {
        IceCoreDater x = new IceCoreDater();
        x.setFunction(2);
        for (int thickness : thicknesses) {
            x.addLayer(thickness, 10);
        }
        return x;
    }

    /** Layers over a bed, with the thinning function 0. */
    static IceCoreDater onBed(int bed, int... thicknesses) {
        IceCoreDater x = new IceCoreDater();
        x.setBed(bed);
        for (int thickness : thicknesses) {
            x.addLayer(thickness, 100);
        }
        return x;
    }

    static IceCoreDater layers(int many, int thickness) {
        IceCoreDater x = new IceCoreDater();
        for (int i = 0; i < many; i++) {
            x.addLayer(thickness, 10);
        }
        return x;
    }

    static IceCoreDater sixteenLayers() {
        return layers(16, 60);
    }

    static IceCoreDater typed(IceCoreDater x, String text) {
        for (int i = 0; i < text.length(); i++) {
            x.type(text.charAt(i));
        }
        return x;
    }

    static void runs(IceCoreDater x, String text, int executed, int failure) {
        typed(x, text);
        due("run() of '" + text + "'", x.run(), executed);
        due("failure() after '" + text + "'", x.failure(), failure);
    }
}
