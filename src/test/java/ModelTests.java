import java.util.ArrayDeque;
import java.util.ArrayList;
import java.util.Deque;
import java.util.List;

/**
 * Long runs of calls, compared with a model that follows the document word by word and tries
 * every value where the document says "the least" or "the best". The runs come from a counter
 * that is mixed by arithmetic, so every run of this test is the same.
 */
public final class ModelTests {
    private static final int RUNS = 700;
    private static final int CALLS = 512;

    private static int wrong = 0;
    /** At 0 the answers that are no error and not NONE, at n the answers -1000000000 - n. */
    private static final int[] KINDS_SEEN = new int[6];

    public static void main(String[] args) {
        for (int run = 0; run < RUNS; run++) {
            new Run(run).play();
        }
        for (int i = 0; i < KINDS_SEEN.length; i++) {
            if (KINDS_SEEN[i] < 300) {
                wrong++;
                System.out.println("the runs hardly meet answers of kind " + i + ": " + KINDS_SEEN[i]);
            }
        }
        System.out.println(wrong == 0 ? "ModelTests: all answers are as due" : wrong + " answers are not as due");
        if (wrong != 0) {
            System.exit(1);
        }
    }

    /** One object of the class and one of the model, given the same calls. */
    private static final class Run {
        private final int number;
        private final IceCoreDater dater = new IceCoreDater();
        private final Model model = new Model();
        private long seed;

        Run(int number) {
            this.number = number;
            this.seed = 1000003L * number + 12345;
        }

        void play() {
            int calls = 0;
            while (calls < CALLS) {
                calls += step(CALLS - calls);
            }
        }

        private int random(int bound) {
            seed = seed * 6364136223846793005L + 1442695040888963407L;
            return (int) Math.floorMod(seed >>> 33, (long) bound);
        }

        private int near(int least, int greatest) {
            switch (random(24)) {
                case 0: return least;
                case 1: return greatest;
                case 2: return least - 1;
                case 3: return greatest + 1;
                case 4: return number % 2 == 0 ? Integer.MIN_VALUE : -7;
                case 5: return number % 2 == 0 ? Integer.MAX_VALUE : greatest + 100;
                default: return least + random(greatest - least + 1);
            }
        }

        private int layer() {
            int layers = model.layers.size();
            switch (random(16)) {
                case 0: return -1;
                case 1: return layers;
                case 2: return random(40) - 12;
                case 3: return number % 3 == 0 ? Integer.MAX_VALUE : Integer.MIN_VALUE;
                default: return layers == 0 ? 0 : random(layers);
            }
        }

        private int thick() {
            return number % 3 == 0 ? near(1, 5000) : number % 3 == 1 ? near(1, 40) : near(1, 700);
        }

        private int accumulating() {
            return number % 4 == 0 ? near(10, 30) : near(10, 2000);
        }

        private int bed() {
            int bottom = model.depth();
            return random(3) == 0 ? Math.max(999, bottom - 1 + random(3)) : near(1000, 200000);
        }

        /** Mostly near the age that the model tells, so that beds fit and segments can be tuned. */
        private int ashAge(int layer) {
            if (random(12) == 0 || layer < 0 || layer >= model.layers.size()) {
                return near(0, 100000000);
            }
            long age = model.ageAtBottom(layer);
            return (int) Math.max(0, age * (60 + random(90)) / 100 + random(7) - 3);
        }

        private int years(int layer) {
            if (random(6) == 0 || layer < 0 || layer >= model.layers.size()) {
                return near(1, 1000000);
            }
            return (int) Math.max(1, model.years(layer) * (20 + random(200)) / 100 + random(3) - 1);
        }

        private int depth() {
            int bottom = model.depth();
            if (random(3) == 0 && !model.layers.isEmpty()) {
                return (int) model.top(random(model.layers.size())) + random(3) - 1;
            }
            return near(0, bottom);
        }

        private int someAge() {
            if (random(8) == 0) {
                return near(0, 100000000);
            }
            return random(3) - 1 + random((int) model.ageAtBottom(model.layers.size() - 1) + 2);
        }

        private int step(int left) {
            int kind = random(100);
            if (kind < 40) {
                return act(random(14));
            }
            if (kind < 43 && left > 82) {
                return text();
            }
            if (kind < 45) {
                return typeOne();
            }
            return kind < 94 ? ask(random(19)) : would(random(3));
        }

        private int act(int which) {
            int layer = layer();
            switch (which) {
                case 0: case 1: {
                    int t = thick(), a = accumulating();
                    return due("addLayer(" + t + ", " + a + ")", dater.addLayer(t, a), model.addLayer(t, a));
                }
                case 2:
                    return random(3) < number % 4 ? ask(0) : due("removeLowest()", dater.removeLowest(), model.removeLowest());
                case 3: {
                    int t = layer >= 0 && layer < model.layers.size() ? near(1, Math.max(1, model.layers.get(layer).thickness - 1)) : 1;
                    return due("divide(" + layer + ", " + t + ")", dater.divide(layer, t), model.divide(layer, t));
                }
                case 4: {
                    int d = bed();
                    return due("setBed(" + d + ")", dater.setBed(d), model.setBed(d));
                }
                case 5: {
                    int f = near(0, 2);
                    return due("setFunction(" + f + ")", dater.setFunction(f), model.setFunction(f));
                }
                case 6: {
                    int k = near(0, 900);
                    return due("setKink(" + k + ")", dater.setKink(k), model.setKink(k));
                }
                case 7: {
                    int t = near(10, 1000);
                    return due("tellThinning(" + layer + ", " + t + ")", dater.tellThinning(layer, t), model.tellThinning(layer, t));
                }
                case 8: {
                    int c = near(200, 5000);
                    return due("correct(" + layer + ", " + c + ")", dater.correct(layer, c), model.correct(layer, c));
                }
                case 9: {
                    int d = near(0, 15000);
                    return due("setCloseOff(" + d + ")", dater.setCloseOff(d), model.setCloseOff(d));
                }
                case 10: {
                    int a = ashAge(layer), t = random(4) == 0 ? near(0, 10000) : random(60);
                    return due("setAsh(" + layer + ", " + a + ", " + t + ")", dater.setAsh(layer, a, t), model.setAsh(layer, a, t));
                }
                case 11:
                    return due("removeAsh(" + layer + ")", dater.removeAsh(layer), model.removeAsh(layer));
                case 12: {
                    int y = years(layer);
                    return due("setCount(" + layer + ", " + y + ")", dater.setCount(layer, y), model.setCount(layer, y));
                }
                default:
                    return due("tune()", dater.tune(), model.tune());
            }
        }

        private int typeOne() {
            switch (random(6)) {
                case 0: return due("clearText()", dater.clearText(), model.clearText());
                case 1: return due("run()", dater.run(), model.run());
                default: {
                    int code = near(32, 126);
                    return due("type(" + code + ")", dater.type(code), model.type(code));
                }
            }
        }

        private int text() {
            StringBuilder commands = new StringBuilder();
            int many = 1 + random(6);
            for (int i = 0; i < many; i++) {
                commands.append(i == 0 ? "" : ";").append(command());
            }
            int calls = 0;
            for (int i = 0; i < commands.length() && i < 81; i++) {
                int code = commands.charAt(i);
                calls += due("type(" + code + ")", dater.type(code), model.type(code));
            }
            String now = model.text;
            calls += due("run() of '" + now + "'", dater.run(), model.run());
            due("failure()", dater.failure(), model.failure);
            return calls;
        }

        private String command() {
            String[] numbers = {String.valueOf(random(16)), String.valueOf(random(3000)), "000000012", "0000000012", "", "x1", "1x", "-1", "+3"};
            String layer = String.valueOf(Math.max(0, layer()));
            String blanks = random(5) == 0 ? "  " : " ";
            String odd = numbers[random(numbers.length)];
            String ends = random(6) == 0 ? " " : "";
            switch (random(22)) {
                case 0: case 1: case 2: return ends + "layer" + blanks + (1 + random(900)) + " " + (10 + random(300)) + ends;
                case 3: case 4: return "ash " + layer + blanks + Math.max(0, ashAge(random(16))) + " " + random(50);
                case 5: case 6: return "count" + blanks + layer + " " + (1 + random(500)) + ends;
                case 7: case 8: return ends + "fix " + layer + blanks + (190 + random(4900));
                case 9: return "bed " + bed();
                case 10: return "kink" + blanks + random(920);
                case 11: return "close " + random(15100);
                case 12: return "use linear" + ends;
                case 13: return ends + "use" + blanks + "kinked";
                case 14: return "use told";
                case 15: case 16: return ends + "tune";
                case 17: return "layer " + odd + " " + numbers[random(numbers.length)];
                case 18: return "kink " + odd;
                case 19: return "use " + odd;
                case 20: return "tune " + odd;
                default: return odd;
            }
        }

        private int ask(int which) {
            int layer = layer();
            switch (which) {
                case 0: return due("layers()", dater.layers(), model.layers.size());
                case 1: return due("depth()", dater.depth(), model.depth());
                case 2: return due("thickness(" + layer + ")", dater.thickness(layer), model.thickness(layer));
                case 3: return due("accumulation(" + layer + ")", dater.accumulation(layer), model.accumulation(layer));
                case 4: return due("correction(" + layer + ")", dater.correction(layer), model.correction(layer));
                case 5: return due("thinning(" + layer + ")", dater.thinning(layer), model.askThinning(layer));
                case 6: return due("years(" + layer + ")", dater.years(layer), model.askYears(layer));
                case 7: return due("delay(" + layer + ")", dater.delay(layer), model.askDelay(layer));
                case 8: return due("residual(" + layer + ")", dater.residual(layer), model.residual(layer));
                case 9: return due("countError(" + layer + ")", dater.countError(layer), model.countError(layer));
                case 10: return due("fitting()", dater.fitting(), model.fitting());
                case 11: {
                    int d = depth();
                    return due("age(" + d + ")", dater.age(d), model.age(d));
                }
                case 12: {
                    int d = depth();
                    return due("gasAge(" + d + ")", dater.gasAge(d), model.gasAge(d));
                }
                case 13: {
                    int a = someAge();
                    return due("depthOf(" + a + ")", dater.depthOf(a), model.depthOf(a, false));
                }
                case 14: {
                    int a = someAge();
                    return due("gasDepthOf(" + a + ")", dater.gasDepthOf(a), model.depthOf(a, true));
                }
                case 15: {
                    int i = depth(), g = depth();
                    return due("lead(" + i + ", " + g + ")", dater.lead(i, g), model.lead(i, g));
                }
                case 16: return due("inversions()", dater.inversions(), model.inversions());
                case 17: return due("acts()", dater.acts(), model.acts) + due("seal()", dater.seal(), model.seal());
                default:
                    return random(2) == 0 ? due("failure()", dater.failure(), model.failure)
                        : due("undo()", dater.undo(), model.undo());
            }
        }

        private int would(int which) {
            int layer = layer();
            switch (which) {
                case 0: return due("bestFunction()", dater.bestFunction(), model.bestFunction());
                case 1: return due("bestKink()", dater.bestKink(), model.bestKink());
                default:
                    return due("neededAccumulation(" + layer + ")", dater.neededAccumulation(layer), model.neededAccumulation(layer));
            }
        }

        private int due(String call, long got, long want) {
            KINDS_SEEN[want < -1000000000 ? (int) (-1000000000 - want) : 0]++;
            if (got != want) {
                wrong++;
                if (wrong < 50) {
                    System.out.println("run " + number + ": " + call + " answered " + got + ", due is " + want);
                }
            }
            return 1;
        }
    }

    private static final class Layer {
        int thickness;
        int accumulation;
        int correction = 1000;
        int told = 1000;
        Integer ashAge;
        int tolerance;
        Integer count;

        Layer(int thickness, int accumulation) {
            this.thickness = thickness;
            this.accumulation = accumulation;
        }

        Layer copy() {
            Layer layer = new Layer(thickness, accumulation);
            layer.correction = correction;
            layer.told = told;
            layer.ashAge = ashAge;
            layer.tolerance = tolerance;
            layer.count = count;
            return layer;
        }
    }

    private static final class State {
        final List<Layer> layers = new ArrayList<>();
        final int bed, function, kink, closeOff;

        State(Model model) {
            for (Layer layer : model.layers) {
                layers.add(layer.copy());
            }
            bed = model.bed;
            function = model.function;
            kink = model.kink;
            closeOff = model.closeOff;
        }
    }

    private static final class Model {
        static final int NO_SUCH_LAYER = -1000000001, BAD_VALUE = -1000000002, NOT_POSSIBLE = -1000000003,
            FULL = -1000000004, NONE = -1000000005;

        List<Layer> layers = new ArrayList<>();
        int bed = 100000, function = 0, kink = 300, closeOff = 7000;
        String text = "";
        int failure = NONE;
        int acts = 0;
        final Deque<State> recorded = new ArrayDeque<>();
        boolean running = false;

        // ---- acts

        private void open() {
            if (!running) {
                recorded.addLast(new State(this));
                if (recorded.size() > 8) {
                    recorded.removeFirst();
                }
                acts++;
            }
        }

        private boolean no(int layer) {
            return layer < 0 || layer >= layers.size();
        }

        int addLayer(int thickness, int accumulation) {
            if (thickness < 1 || thickness > 5000 || accumulation < 10 || accumulation > 2000) return BAD_VALUE;
            if (depth() + thickness > bed) return NOT_POSSIBLE;
            if (layers.size() == 16) return FULL;
            open();
            layers.add(new Layer(thickness, accumulation));
            return layers.size() - 1;
        }

        int removeLowest() {
            if (layers.isEmpty()) return NOT_POSSIBLE;
            open();
            layers.remove(layers.size() - 1);
            return layers.size();
        }

        int divide(int layer, int thickness) {
            if (no(layer)) return NO_SUCH_LAYER;
            if (thickness < 1 || thickness > layers.get(layer).thickness - 1) return BAD_VALUE;
            if (layers.size() == 16) return FULL;
            open();
            Layer lower = layers.get(layer).copy();
            Layer upper = layers.get(layer);
            upper.thickness = thickness;
            lower.thickness -= thickness;
            upper.ashAge = null;
            upper.count = null;
            lower.count = null;
            layers.add(layer + 1, lower);
            return layers.size();
        }

        int setBed(int depth) {
            if (depth < 1000 || depth > 200000) return BAD_VALUE;
            if (depth() > depth) return NOT_POSSIBLE;
            open();
            int old = bed;
            bed = depth;
            return old;
        }

        int setFunction(int wanted) {
            if (wanted < 0 || wanted > 2) return BAD_VALUE;
            open();
            int old = function;
            function = wanted;
            return old;
        }

        int setKink(int wanted) {
            if (wanted < 0 || wanted > 900) return BAD_VALUE;
            open();
            int old = kink;
            kink = wanted;
            return old;
        }

        int tellThinning(int layer, int thinning) {
            if (no(layer)) return NO_SUCH_LAYER;
            if (thinning < 10 || thinning > 1000) return BAD_VALUE;
            open();
            int old = layers.get(layer).told;
            layers.get(layer).told = thinning;
            return old;
        }

        int correct(int layer, int correction) {
            if (no(layer)) return NO_SUCH_LAYER;
            if (correction < 200 || correction > 5000) return BAD_VALUE;
            open();
            int old = layers.get(layer).correction;
            layers.get(layer).correction = correction;
            return old;
        }

        int setCloseOff(int depth) {
            if (depth < 0 || depth > 15000) return BAD_VALUE;
            open();
            int old = closeOff;
            closeOff = depth;
            return old;
        }

        private int beds() {
            return (int) layers.stream().filter(layer -> layer.ashAge != null).count();
        }

        int setAsh(int layer, int age, int tolerance) {
            if (no(layer)) return NO_SUCH_LAYER;
            if (age < 0 || age > 100000000 || tolerance < 0 || tolerance > 10000) return BAD_VALUE;
            open();
            layers.get(layer).ashAge = age;
            layers.get(layer).tolerance = tolerance;
            return beds();
        }

        int removeAsh(int layer) {
            if (no(layer)) return NO_SUCH_LAYER;
            if (layers.get(layer).ashAge == null) return NOT_POSSIBLE;
            open();
            layers.get(layer).ashAge = null;
            return beds();
        }

        int setCount(int layer, int years) {
            if (no(layer)) return NO_SUCH_LAYER;
            if (years < 1 || years > 1000000) return BAD_VALUE;
            open();
            layers.get(layer).count = years;
            return (int) (years(layer) - years);
        }

        int tune() {
            if (beds() == 0) return NOT_POSSIBLE;
            int above = 0;
            for (Layer layer : layers) {
                if (layer.ashAge != null) {
                    if (layer.ashAge - above < 0) return NOT_POSSIBLE;
                    above = layer.ashAge;
                }
            }
            open();
            int first = 0;
            above = 0;
            for (int i = 0; i < layers.size(); i++) {
                if (layers.get(i).ashAge != null) {
                    tuneSegment(first, i, layers.get(i).ashAge - above);
                    above = layers.get(i).ashAge;
                    first = i + 1;
                }
            }
            return fitting();
        }

        private void tuneSegment(int first, int last, int known) {
            long[] thinnings = new long[layers.size()];
            for (int i = first; i <= last; i++) {
                thinnings[i] = thinning(i, function, kink);
            }
            long least = Long.MAX_VALUE;
            int best = 0;
            for (int c = 200; c <= 5000; c++) {
                long sum = 0;
                for (int i = first; i <= last; i++) {
                    sum += 10000000L * layers.get(i).thickness / ((long) layers.get(i).accumulation * c * thinnings[i]);
                }
                if (Math.abs(sum - known) < least) {
                    least = Math.abs(sum - known);
                    best = c;
                }
            }
            for (int i = first; i <= last; i++) {
                layers.get(i).correction = best;
            }
        }

        int undo() {
            if (recorded.isEmpty()) return NONE;
            State state = recorded.removeLast();
            layers = state.layers;
            bed = state.bed;
            function = state.function;
            kink = state.kink;
            closeOff = state.closeOff;
            return recorded.size();
        }

        // ---- texts

        int type(int code) {
            if (code < 32 || code > 126) return BAD_VALUE;
            if (text.length() == 80) return FULL;
            text += (char) code;
            return text.length();
        }

        int clearText() {
            int old = text.length();
            text = "";
            return old;
        }

        int run() {
            open();
            running = true;
            int executed = 0;
            failure = 0;
            for (String command : text.split(";", -1)) {
                Integer answer = execute(command);
                if (answer == null) {
                    failure = 1;
                } else if (answer <= NO_SUCH_LAYER && answer >= FULL) {
                    failure = answer;
                }
                if (failure != 0) break;
                executed++;
            }
            running = false;
            text = "";
            return executed;
        }

        /** Null for a malformed command. */
        private Integer execute(String command) {
            String n = " +([0-9]{1,9})";
            String c = command.replaceAll("^ +", "").replaceAll(" +$", "");
            String[] words = c.split(" +");
            if (c.matches("layer" + n + n)) return addLayer(number(words[1]), number(words[2]));
            if (c.matches("ash" + n + n + n)) return setAsh(number(words[1]), number(words[2]), number(words[3]));
            if (c.matches("count" + n + n)) return setCount(number(words[1]), number(words[2]));
            if (c.matches("fix" + n + n)) return correct(number(words[1]), number(words[2]));
            if (c.matches("bed" + n)) return setBed(number(words[1]));
            if (c.matches("kink" + n)) return setKink(number(words[1]));
            if (c.matches("close" + n)) return setCloseOff(number(words[1]));
            if (c.matches("use +linear")) return setFunction(0);
            if (c.matches("use +kinked")) return setFunction(1);
            if (c.matches("use +told")) return setFunction(2);
            if (c.equals("tune")) return tune();
            return null;
        }

        private static int number(String word) {
            return Integer.parseInt(word);
        }

        // ---- what there is

        int depth() {
            return (int) top(layers.size());
        }

        long top(int layer) {
            long top = 0;
            for (int i = 0; i < layer; i++) {
                top += layers.get(i).thickness;
            }
            return top;
        }

        int thickness(int layer) {
            return no(layer) ? NO_SUCH_LAYER : layers.get(layer).thickness;
        }

        int accumulation(int layer) {
            return no(layer) ? NO_SUCH_LAYER : layers.get(layer).accumulation;
        }

        int correction(int layer) {
            return no(layer) ? NO_SUCH_LAYER : layers.get(layer).correction;
        }

        private long thinning(int layer, int withFunction, int withKink) {
            long b = bed;
            long z = top(layer) + layers.get(layer).thickness / 2;
            long y = b - z;
            long h = b * withKink / 1000;
            long result;
            if (withFunction == 0) {
                result = 1000 * y / b;
            } else if (withFunction == 1 && y >= h) {
                result = 1000 * (2 * y - h) / (2 * b - h);
            } else if (withFunction == 1) {
                result = 1000 * y * y / (h * (2 * b - h));
            } else {
                result = layers.get(layer).told;
            }
            return result < 10 ? 10 : result;
        }

        private long years(int layer, int withFunction, int withKink) {
            Layer l = layers.get(layer);
            return 10000000L * l.thickness / ((long) l.accumulation * l.correction * thinning(layer, withFunction, withKink));
        }

        long years(int layer) {
            return years(layer, function, kink);
        }

        private long delay(int layer) {
            Layer l = layers.get(layer);
            return 10000L * closeOff / ((long) l.accumulation * l.correction);
        }

        int askThinning(int layer) {
            return no(layer) ? NO_SUCH_LAYER : (int) thinning(layer, function, kink);
        }

        int askYears(int layer) {
            return no(layer) ? NO_SUCH_LAYER : (int) years(layer);
        }

        int askDelay(int layer) {
            return no(layer) ? NO_SUCH_LAYER : (int) delay(layer);
        }

        long ageAtBottom(int layer) {
            return ageAtBottom(layer, function, kink);
        }

        private long ageAtBottom(int layer, int withFunction, int withKink) {
            long age = 0;
            for (int i = 0; i <= layer; i++) {
                age += years(i, withFunction, withKink);
            }
            return age;
        }

        int residual(int layer) {
            if (no(layer)) return NO_SUCH_LAYER;
            if (layers.get(layer).ashAge == null) return NONE;
            return (int) (ageAtBottom(layer) - layers.get(layer).ashAge);
        }

        int countError(int layer) {
            if (no(layer)) return NO_SUCH_LAYER;
            if (layers.get(layer).count == null) return NONE;
            return (int) (years(layer) - layers.get(layer).count);
        }

        int fitting() {
            int fitting = 0;
            for (int i = 0; i < layers.size(); i++) {
                Layer l = layers.get(i);
                if (l.ashAge != null && residual(i) >= -l.tolerance && residual(i) <= l.tolerance) {
                    fitting++;
                }
            }
            return fitting;
        }

        private int layerAt(int depth) {
            int i = 0;
            while (depth > top(i + 1)) {
                i++;
            }
            return i;
        }

        private long plainAge(int depth) {
            int i = layerAt(depth);
            return ageAtBottom(i - 1) + years(i) * (depth - top(i)) / layers.get(i).thickness;
        }

        private long plainGasAge(int depth) {
            return Math.max(0, plainAge(depth) - delay(layerAt(depth)));
        }

        int age(int depth) {
            if (depth < 0 || depth > depth()) return BAD_VALUE;
            return layers.isEmpty() ? NOT_POSSIBLE : (int) plainAge(depth);
        }

        int gasAge(int depth) {
            if (depth < 0 || depth > depth()) return BAD_VALUE;
            return layers.isEmpty() ? NOT_POSSIBLE : (int) plainGasAge(depth);
        }

        int depthOf(int age, boolean ofGas) {
            if (age < 0) return BAD_VALUE;
            for (int i = 0; i < layers.size(); i++) {
                Layer l = layers.get(i);
                long top = top(i), above = ageAtBottom(i - 1), years = years(i), delay = delay(i);
                for (int d = i == 0 ? 0 : 1; d <= l.thickness; d++) {
                    long there = above + years * d / l.thickness;
                    if (ofGas) {
                        there = Math.max(0, there - delay);
                    }
                    if (there >= age) return (int) (top + d);
                }
            }
            return NONE;
        }

        int lead(int ice, int gas) {
            if (ice < 0 || ice > depth() || gas < 0 || gas > depth()) return BAD_VALUE;
            return layers.isEmpty() ? NOT_POSSIBLE : (int) (plainAge(ice) - plainGasAge(gas));
        }

        int inversions() {
            int inversions = 0;
            for (int i = 0; i + 1 < layers.size(); i++) {
                int bottom = (int) top(i + 1);
                if (plainGasAge(bottom) > plainGasAge(bottom + 1)) {
                    inversions++;
                }
            }
            return inversions;
        }

        int seal() {
            int seal = 7;
            for (int i = 0; i < layers.size(); i++) {
                seal = 31 * seal + (int) ageAtBottom(i);
            }
            return (short) (seal & 0xFFFF);
        }

        // ---- what would be

        private long misfit(int withFunction, int withKink) {
            long sum = 0;
            for (int i = 0; i < layers.size(); i++) {
                if (layers.get(i).ashAge != null) {
                    sum += Math.abs(ageAtBottom(i, withFunction, withKink) - layers.get(i).ashAge);
                }
            }
            return sum;
        }

        int bestFunction() {
            if (beds() == 0) return NONE;
            int best = 0;
            for (int f = 1; f <= 2; f++) {
                if (misfit(f, kink) < misfit(best, kink)) best = f;
            }
            return best;
        }

        int bestKink() {
            if (beds() == 0) return NONE;
            int best = 0;
            for (int k = 0; k <= 900; k += 25) {
                if (misfit(1, k) < misfit(1, best)) best = k;
            }
            return best;
        }

        int neededAccumulation(int layer) {
            if (no(layer)) return NO_SUCH_LAYER;
            Layer l = layers.get(layer);
            if (l.count == null) return NONE;
            long thinning = thinning(layer, function, kink);
            long least = Long.MAX_VALUE;
            int best = 0;
            for (int a = 10; a <= 2000; a++) {
                long error = Math.abs(10000000L * l.thickness / ((long) a * l.correction * thinning) - l.count);
                if (error < least) {
                    least = error;
                    best = a;
                }
            }
            return best;
        }
    }
}
