/**
 * A dating model for an ice core: layers that are thinned by the ice above them, three thinning
 * functions, ages of ice and of enclosed gas, ash beds, counts, commands as texts, and an undo log.
 */
public final class IceCoreDater {
    /** The number does not belong to a layer. */
    public static final int NO_SUCH_LAYER = -1000000001;
    /** Another argument is out of range. */
    public static final int BAD_VALUE = -1000000002;
    /** This is not possible at present. */
    public static final int NOT_POSSIBLE = -1000000003;
    /** There is no more room. */
    public static final int FULL = -1000000004;
    /** There is no such value. */
    public static final int NONE = -1000000005;

    private static final int MAX_LAYERS = 16;
    private static final int MAX_STATES = 8;
    private static final int MAX_TEXT = 80;

    private static final int LINEAR = 0;
    private static final int KINKED = 1;
    private static final int TOLD = 2;

    private static final int LEAST_ACCUMULATION = 10;
    private static final int GREATEST_ACCUMULATION = 2000;
    private static final int LEAST_CORRECTION = 200;
    private static final int GREATEST_CORRECTION = 5000;
    private static final int GREATEST_KINK = 900;
    private static final int KINK_STEP = 25;

    /** What failure() tells of a malformed text. */
    private static final int MALFORMED_COMMAND = 1;
    /** No method answers this, so it can stand for a malformed command among their answers. */
    private static final int MALFORMED = -1000000006;

    private final Core core = new Core();
    private final Log log = new Log();
    private final Falling falling = new Falling();
    private final Text text = new Text();
    private int acts = 0;
    private int failure = NONE;

    /** Creates a core without layers. */
    public IceCoreDater() {
    }

    // ---- the core

    public int addLayer(int thickness, int accumulation) {
        log.prepare(core);
        return closeAct(core.append(thickness, accumulation));
    }

    public int removeLowest() {
        log.prepare(core);
        return closeAct(core.dropLowest());
    }

    public int divide(int layer, int thickness) {
        log.prepare(core);
        return closeAct(core.split(layer, thickness));
    }

    public int setBed(int depth) {
        log.prepare(core);
        return closeAct(core.putBed(depth));
    }

    public int setFunction(int function) {
        log.prepare(core);
        return closeAct(core.putFunction(function));
    }

    public int setKink(int kink) {
        log.prepare(core);
        return closeAct(core.putKink(kink));
    }

    public int tellThinning(int layer, int thinning) {
        log.prepare(core);
        return closeAct(core.putTold(layer, thinning));
    }

    public int correct(int layer, int correction) {
        log.prepare(core);
        return closeAct(core.putCorrection(layer, correction));
    }

    public int setCloseOff(int depth) {
        log.prepare(core);
        return closeAct(core.putCloseOff(depth));
    }

    // ---- ash beds and counts

    public int setAsh(int layer, int age, int tolerance) {
        log.prepare(core);
        return closeAct(core.putAsh(layer, age, tolerance));
    }

    public int removeAsh(int layer) {
        log.prepare(core);
        return closeAct(core.dropAsh(layer));
    }

    public int setCount(int layer, int years) {
        log.prepare(core);
        return closeAct(core.putCount(layer, years));
    }

    public int tune() {
        log.prepare(core);
        return closeAct(core.fitCorrections(falling));
    }

    public int undo() {
        return log.restore(core);
    }

    // ---- texts

    public int type(int code) {
        return text.append(code);
    }

    public int clearText() {
        return text.empty();
    }

    public int run() {
        log.prepare(core);
        log.keep();
        acts++;
        failure = 0;
        int executed = 0;
        int start = 0;
        for (int i = 0; i <= text.length && failure == 0; i++) {
            if (i == text.length || text.at(i) == ';') {
                text.readCommand(start, i);
                start = i + 1;
                failure = failureOf(execute());
                if (failure == 0) {
                    executed++;
                }
            }
        }
        text.empty();
        return executed;
    }

    public int failure() {
        return failure;
    }

    // ---- what there is

    public int layers() {
        return core.size;
    }

    public int depth() {
        return core.bottom();
    }

    public int thickness(int layer) {
        return core.has(layer) ? core.thickness[layer] : NO_SUCH_LAYER;
    }

    public int accumulation(int layer) {
        return core.has(layer) ? core.accumulation[layer] : NO_SUCH_LAYER;
    }

    public int correction(int layer) {
        return core.has(layer) ? core.correction[layer] : NO_SUCH_LAYER;
    }

    public int thinning(int layer) {
        return core.has(layer) ? core.thinningOf(layer, core.function, core.kink) : NO_SUCH_LAYER;
    }

    public int years(int layer) {
        return core.has(layer) ? core.yearsOf(layer, core.function, core.kink) : NO_SUCH_LAYER;
    }

    public int delay(int layer) {
        return core.has(layer) ? core.delayOf(layer) : NO_SUCH_LAYER;
    }

    public int residual(int layer) {
        if (!core.has(layer)) {
            return NO_SUCH_LAYER;
        }
        return core.hasAsh(layer) ? core.residualOf(layer) : NONE;
    }

    public int countError(int layer) {
        if (!core.has(layer)) {
            return NO_SUCH_LAYER;
        }
        return core.hasCount(layer) ? core.countErrorOf(layer) : NONE;
    }

    public int fitting() {
        return core.fittingBeds();
    }

    public int age(int depth) {
        int fault = depthFault(depth);
        return fault == 0 ? core.ageAt(depth) : fault;
    }

    public int gasAge(int depth) {
        int fault = depthFault(depth);
        return fault == 0 ? core.gasAgeAt(depth) : fault;
    }

    public int depthOf(int age) {
        return age < 0 ? BAD_VALUE : core.leastDepthOf(age);
    }

    public int gasDepthOf(int age) {
        return age < 0 ? BAD_VALUE : core.leastGasDepthOf(age);
    }

    public int lead(int ice, int gas) {
        int fault = depthFault(ice);
        // A depth that is out of range comes before the lack of layers, whichever depth it is.
        if (fault != BAD_VALUE) {
            fault = depthFault(gas);
        }
        return fault == 0 ? core.ageAt(ice) - core.gasAgeAt(gas) : fault;
    }

    public int inversions() {
        return core.invertedBorders();
    }

    public int acts() {
        return acts;
    }

    public int seal() {
        return core.sealOfAges();
    }

    // ---- what would be; nothing changes

    public int bestFunction() {
        if (core.ashBeds() == 0) {
            return NONE;
        }
        int best = LINEAR;
        long least = core.misfit(LINEAR, core.kink);
        for (int function = KINKED; function <= TOLD; function++) {
            long misfit = core.misfit(function, core.kink);
            if (misfit < least) {
                least = misfit;
                best = function;
            }
        }
        return best;
    }

    public int bestKink() {
        if (core.ashBeds() == 0) {
            return NONE;
        }
        int best = 0;
        long least = core.misfit(KINKED, 0);
        for (int kink = KINK_STEP; kink <= GREATEST_KINK; kink += KINK_STEP) {
            long misfit = core.misfit(KINKED, kink);
            if (misfit < least) {
                least = misfit;
                best = kink;
            }
        }
        return best;
    }

    public int neededAccumulation(int layer) {
        if (!core.has(layer)) {
            return NO_SUCH_LAYER;
        }
        if (!core.hasCount(layer)) {
            return NONE;
        }
        return core.fitAccumulation(layer, falling);
    }

    // ---- helpers

    /** Whether the state before it is recorded is known only when the act has answered. */
    private int closeAct(int answer) {
        if (!isError(answer)) {
            log.keep();
            acts++;
        }
        return answer;
    }

    private static boolean isError(int answer) {
        return answer == NO_SUCH_LAYER || answer == BAD_VALUE || answer == NOT_POSSIBLE || answer == FULL;
    }

    private static int failureOf(int answer) {
        if (answer == MALFORMED) {
            return MALFORMED_COMMAND;
        }
        return isError(answer) ? answer : 0;
    }

    /** Works on the core itself, since the commands of a run are no acts of their own. */
    private int execute() {
        if (text.isCommand("layer", 2)) {
            return core.append(text.number(1), text.number(2));
        }
        if (text.isCommand("ash", 3)) {
            return core.putAsh(text.number(1), text.number(2), text.number(3));
        }
        if (text.isCommand("count", 2)) {
            return core.putCount(text.number(1), text.number(2));
        }
        if (text.isCommand("fix", 2)) {
            return core.putCorrection(text.number(1), text.number(2));
        }
        if (text.isCommand("bed", 1)) {
            return core.putBed(text.number(1));
        }
        if (text.isCommand("kink", 1)) {
            return core.putKink(text.number(1));
        }
        if (text.isCommand("close", 1)) {
            return core.putCloseOff(text.number(1));
        }
        if (text.isCommand("tune", 0)) {
            return core.fitCorrections(falling);
        }
        return executeUse();
    }

    private int executeUse() {
        if (text.words != 2 || !text.isWord(0, "use")) {
            return MALFORMED;
        }
        if (text.isWord(1, "linear")) {
            return core.putFunction(LINEAR);
        }
        if (text.isWord(1, "kinked")) {
            return core.putFunction(KINKED);
        }
        if (text.isWord(1, "told")) {
            return core.putFunction(TOLD);
        }
        return MALFORMED;
    }

    private int depthFault(int depth) {
        if (depth < 0 || depth > core.bottom()) {
            return BAD_VALUE;
        }
        return core.size == 0 ? NOT_POSSIBLE : 0;
    }

    /** A divisor of 0 can't occur in a core; the test keeps the machine from throwing all the same. */
    private static long quotient(long dividend, long divisor) {
        return divisor > 0 ? dividend / divisor : 0;
    }

    private static boolean isBetween(int value, int least, int greatest) {
        return value >= least && value <= greatest;
    }

    /** All that undo() restores, and what follows from it. */
    private static final class Core {
        private static final int GREATEST_THICKNESS = 5000;
        private static final int LEAST_THINNING = 10;
        private static final int GREATEST_THINNING = 1000;
        private static final int FIRST_CORRECTION = 1000;
        private static final int LEAST_BED = 1000;
        private static final int GREATEST_BED = 200000;
        private static final int GREATEST_CLOSE_OFF = 15000;
        private static final int GREATEST_ASH_AGE = 100000000;
        private static final int GREATEST_TOLERANCE = 10000;
        private static final int GREATEST_COUNT = 1000000;
        /** Known ages are 0 or more, and counts are 1 or more. */
        private static final int NO_ASH = -1;
        private static final int NO_COUNT = 0;

        int size = 0;
        int bed = 100000;
        int function = LINEAR;
        int kink = 300;
        int closeOff = 7000;
        final int[] thickness = new int[MAX_LAYERS];
        final int[] accumulation = new int[MAX_LAYERS];
        final int[] correction = new int[MAX_LAYERS];
        final int[] told = new int[MAX_LAYERS];
        final int[] ashAge = new int[MAX_LAYERS];
        final int[] ashTolerance = new int[MAX_LAYERS];
        final int[] count = new int[MAX_LAYERS];

        void copyFrom(Core other) {
            size = other.size;
            bed = other.bed;
            function = other.function;
            kink = other.kink;
            closeOff = other.closeOff;
            System.arraycopy(other.thickness, 0, thickness, 0, MAX_LAYERS);
            System.arraycopy(other.accumulation, 0, accumulation, 0, MAX_LAYERS);
            System.arraycopy(other.correction, 0, correction, 0, MAX_LAYERS);
            System.arraycopy(other.told, 0, told, 0, MAX_LAYERS);
            System.arraycopy(other.ashAge, 0, ashAge, 0, MAX_LAYERS);
            System.arraycopy(other.ashTolerance, 0, ashTolerance, 0, MAX_LAYERS);
            System.arraycopy(other.count, 0, count, 0, MAX_LAYERS);
        }

        boolean has(int layer) {
            return layer >= 0 && layer < size;
        }

        boolean hasAsh(int layer) {
            return has(layer) && ashAge[layer] != NO_ASH;
        }

        boolean hasCount(int layer) {
            return has(layer) && count[layer] != NO_COUNT;
        }

        int ashBeds() {
            int beds = 0;
            for (int i = 0; i < size; i++) {
                if (hasAsh(i)) {
                    beds++;
                }
            }
            return beds;
        }

        /** Also asked for one layer more than there are: that is the bottom of the lowest one. */
        int topOf(int layer) {
            int top = 0;
            for (int i = 0; i < layer && i < size; i++) {
                top += thickness[i];
            }
            return top;
        }

        int bottom() {
            return topOf(size);
        }

        // ---- changes; each answers an error before it changes anything

        int append(int newThickness, int newAccumulation) {
            if (!isBetween(newThickness, 1, GREATEST_THICKNESS)
                    || !isBetween(newAccumulation, LEAST_ACCUMULATION, GREATEST_ACCUMULATION)) {
                return BAD_VALUE;
            }
            if (bottom() + newThickness > bed) {
                return NOT_POSSIBLE;
            }
            if (size >= MAX_LAYERS) {
                return FULL;
            }
            thickness[size] = newThickness;
            accumulation[size] = newAccumulation;
            correction[size] = FIRST_CORRECTION;
            told[size] = GREATEST_THINNING;
            // The row may still hold what belonged to a layer that has been removed.
            ashAge[size] = NO_ASH;
            ashTolerance[size] = 0;
            count[size] = NO_COUNT;
            size++;
            return size - 1;
        }

        int dropLowest() {
            if (size == 0) {
                return NOT_POSSIBLE;
            }
            size--;
            return size;
        }

        int split(int layer, int upperThickness) {
            if (!has(layer)) {
                return NO_SUCH_LAYER;
            }
            if (!isBetween(upperThickness, 1, thickness[layer] - 1)) {
                return BAD_VALUE;
            }
            if (size >= MAX_LAYERS) {
                return FULL;
            }
            for (int i = size; i > layer; i--) {
                copyLayer(i - 1, i);
            }
            size++;
            thickness[layer] = upperThickness;
            thickness[layer + 1] -= upperThickness;
            ashAge[layer] = NO_ASH;
            count[layer] = NO_COUNT;
            count[layer + 1] = NO_COUNT;
            return size;
        }

        private void copyLayer(int from, int to) {
            thickness[to] = thickness[from];
            accumulation[to] = accumulation[from];
            correction[to] = correction[from];
            told[to] = told[from];
            ashAge[to] = ashAge[from];
            ashTolerance[to] = ashTolerance[from];
            count[to] = count[from];
        }

        int putBed(int depth) {
            if (!isBetween(depth, LEAST_BED, GREATEST_BED)) {
                return BAD_VALUE;
            }
            if (bottom() > depth) {
                return NOT_POSSIBLE;
            }
            int previous = bed;
            bed = depth;
            return previous;
        }

        int putFunction(int newFunction) {
            if (!isBetween(newFunction, LINEAR, TOLD)) {
                return BAD_VALUE;
            }
            int previous = function;
            function = newFunction;
            return previous;
        }

        int putKink(int newKink) {
            if (!isBetween(newKink, 0, GREATEST_KINK)) {
                return BAD_VALUE;
            }
            int previous = kink;
            kink = newKink;
            return previous;
        }

        int putTold(int layer, int thinning) {
            if (!has(layer)) {
                return NO_SUCH_LAYER;
            }
            if (!isBetween(thinning, LEAST_THINNING, GREATEST_THINNING)) {
                return BAD_VALUE;
            }
            int previous = told[layer];
            told[layer] = thinning;
            return previous;
        }

        int putCorrection(int layer, int newCorrection) {
            if (!has(layer)) {
                return NO_SUCH_LAYER;
            }
            if (!isBetween(newCorrection, LEAST_CORRECTION, GREATEST_CORRECTION)) {
                return BAD_VALUE;
            }
            int previous = correction[layer];
            correction[layer] = newCorrection;
            return previous;
        }

        int putCloseOff(int depth) {
            if (!isBetween(depth, 0, GREATEST_CLOSE_OFF)) {
                return BAD_VALUE;
            }
            int previous = closeOff;
            closeOff = depth;
            return previous;
        }

        int putAsh(int layer, int age, int tolerance) {
            if (!has(layer)) {
                return NO_SUCH_LAYER;
            }
            if (!isBetween(age, 0, GREATEST_ASH_AGE) || !isBetween(tolerance, 0, GREATEST_TOLERANCE)) {
                return BAD_VALUE;
            }
            ashAge[layer] = age;
            ashTolerance[layer] = tolerance;
            return ashBeds();
        }

        int dropAsh(int layer) {
            if (!has(layer)) {
                return NO_SUCH_LAYER;
            }
            if (!hasAsh(layer)) {
                return NOT_POSSIBLE;
            }
            ashAge[layer] = NO_ASH;
            return ashBeds();
        }

        int putCount(int layer, int years) {
            if (!has(layer)) {
                return NO_SUCH_LAYER;
            }
            if (!isBetween(years, 1, GREATEST_COUNT)) {
                return BAD_VALUE;
            }
            count[layer] = years;
            return countErrorOf(layer);
        }

        // ---- what follows from the layers

        int thinningOf(int layer, int withFunction, int withKink) {
            if (withFunction == TOLD) {
                return told[layer];
            }
            long aboveBed = bed - (topOf(layer) + thickness[layer] / 2);
            long dividend = 1000 * aboveBed;
            long divisor = bed;
            if (withFunction == KINKED) {
                long bend = (long) bed * withKink / 1000;
                long whole = 2L * bed - bend;
                boolean overBend = aboveBed >= bend;
                dividend = overBend ? 1000 * (2 * aboveBed - bend) : 1000 * aboveBed * aboveBed;
                divisor = overBend ? whole : bend * whole;
            }
            return (int) Math.max(LEAST_THINNING, quotient(dividend, divisor));
        }

        /** The years of a layer are this, divided by its accumulation, correction and thinning. */
        private long yearsDividend(int layer) {
            return 10000000L * thickness[layer];
        }

        int yearsOf(int layer, int withFunction, int withKink) {
            long thinning = thinningOf(layer, withFunction, withKink);
            return (int) quotient(yearsDividend(layer), thinning * accumulation[layer] * correction[layer]);
        }

        int delayOf(int layer) {
            return (int) quotient(10000L * closeOff, (long) accumulation[layer] * correction[layer]);
        }

        int countErrorOf(int layer) {
            return yearsOf(layer, function, kink) - count[layer];
        }

        int residualOf(int layer) {
            int age = 0;
            for (int i = 0; i <= layer && i < size; i++) {
                age += yearsOf(i, function, kink);
            }
            return age - ashAge[layer];
        }

        int fittingBeds() {
            int age = 0;
            int fitting = 0;
            for (int i = 0; i < size; i++) {
                age += yearsOf(i, function, kink);
                if (hasAsh(i) && Math.abs(age - ashAge[i]) <= ashTolerance[i]) {
                    fitting++;
                }
            }
            return fitting;
        }

        /** The sum of the absolute residuals as it would be with that function and that kink. */
        long misfit(int withFunction, int withKink) {
            int age = 0;
            long sum = 0;
            for (int i = 0; i < size; i++) {
                age += yearsOf(i, withFunction, withKink);
                if (hasAsh(i)) {
                    sum += Math.abs(age - ashAge[i]);
                }
            }
            return sum;
        }

        int sealOfAges() {
            int age = 0;
            int seal = 7;
            for (int i = 0; i < size; i++) {
                age += yearsOf(i, function, kink);
                seal = 31 * seal + age;
            }
            return (short) seal;
        }

        // ---- ages and depths

        int ageAt(int depth) {
            int top = 0;
            int age = 0;
            for (int i = 0; i < size; i++) {
                long years = yearsOf(i, function, kink);
                if (depth <= top + thickness[i]) {
                    return age + (int) quotient(years * (depth - top), thickness[i]);
                }
                top += thickness[i];
                age += (int) years;
            }
            return age;
        }

        int gasAgeAt(int depth) {
            int bottom = 0;
            for (int i = 0; i < size; i++) {
                bottom += thickness[i];
                if (depth <= bottom) {
                    return Math.max(0, ageAt(depth) - delayOf(i));
                }
            }
            return 0;
        }

        int leastDepthOf(int age) {
            int top = 0;
            long topAge = 0;
            for (int i = 0; i < size; i++) {
                int years = yearsOf(i, function, kink);
                if (topAge + years >= age) {
                    return top + stepsFor(age - topAge, years, thickness[i]);
                }
                top += thickness[i];
                topAge += years;
            }
            return NONE;
        }

        int leastGasDepthOf(int age) {
            if (age == 0) {
                return size == 0 ? NONE : 0;
            }
            int top = 0;
            long topAge = 0;
            for (int i = 0; i < size; i++) {
                int years = yearsOf(i, function, kink);
                long needed = (long) age + delayOf(i) - topAge;
                if (years >= needed) {
                    // The top itself belongs to the layer above, which was too young down to there.
                    return top + Math.max(1, stepsFor(needed, years, thickness[i]));
                }
                top += thickness[i];
                topAge += years;
            }
            return NONE;
        }

        /** The least depth below its top at which a layer has grown by that many years, 0 to its years. */
        private static int stepsFor(long neededYears, int years, int layerThickness) {
            if (neededYears <= 0) {
                return 0;
            }
            return (int) quotient(neededYears * layerThickness + years - 1, years);
        }

        int invertedBorders() {
            int inverted = 0;
            int border = 0;
            for (int i = 0; i < size - 1; i++) {
                border += thickness[i];
                if (gasAgeAt(border) > gasAgeAt(border + 1)) {
                    inverted++;
                }
            }
            return inverted;
        }

        // ---- searches

        int fitCorrections(Falling falling) {
            if (!canBeTuned()) {
                return NOT_POSSIBLE;
            }
            int first = 0;
            int ageAbove = 0;
            for (int i = 0; i < size; i++) {
                if (hasAsh(i)) {
                    fitSegment(first, i, ashAge[i] - ageAbove, falling);
                    first = i + 1;
                    ageAbove = ashAge[i];
                }
            }
            return fittingBeds();
        }

        private boolean canBeTuned() {
            int ageAbove = 0;
            for (int i = 0; i < size; i++) {
                if (hasAsh(i)) {
                    if (ashAge[i] < ageAbove) {
                        return false;
                    }
                    ageAbove = ashAge[i];
                }
            }
            return ashBeds() > 0;
        }

        private void fitSegment(int first, int last, int knownYears, Falling falling) {
            falling.clear();
            for (int i = first; i <= last && i < size; i++) {
                falling.add(yearsDividend(i), (long) accumulation[i] * thinningOf(i, function, kink));
            }
            int best = falling.nearest(LEAST_CORRECTION, GREATEST_CORRECTION, knownYears);
            for (int i = first; i <= last && i < size; i++) {
                correction[i] = best;
            }
        }

        int fitAccumulation(int layer, Falling falling) {
            falling.clear();
            falling.add(yearsDividend(layer), (long) correction[layer] * thinningOf(layer, function, kink));
            return falling.nearest(LEAST_ACCUMULATION, GREATEST_ACCUMULATION, count[layer]);
        }
    }

    /**
     * A sum of quotients dividend / (factor * x). It never grows with x, so that the x whose sum is
     * nearest to a wanted one can be found by halving steps instead of by trying every x.
     */
    private static final class Falling {
        /** A power of two; this step and the smaller ones together exceed every range searched here. */
        private static final int FIRST_STEP = 4096;

        private int size = 0;
        private final long[] dividends = new long[MAX_LAYERS];
        private final long[] factors = new long[MAX_LAYERS];

        void clear() {
            size = 0;
        }

        void add(long dividend, long factor) {
            if (size < MAX_LAYERS) {
                dividends[size] = dividend;
                factors[size] = factor;
                size++;
            }
        }

        /** The least x from low to high with which |sum - wanted| is least. */
        int nearest(int low, int high, long wanted) {
            int reaching = firstAtMost(low, high, wanted);
            if (reaching == low) {
                return low;
            }
            long above = sum(reaching - 1);
            if (reaching <= high && wanted - sum(reaching) < above - wanted) {
                return reaching;
            }
            return firstAtMost(low, high, above);
        }

        /** The least x with a sum of at most the limit; high + 1 if there is none. */
        private int firstAtMost(int low, int high, long limit) {
            int last = low - 1;
            for (int step = FIRST_STEP; step > 0; step /= 2) {
                if (last + step <= high && sum(last + step) > limit) {
                    last += step;
                }
            }
            return last + 1;
        }

        private long sum(int x) {
            long sum = 0;
            for (int i = 0; i < size; i++) {
                long divisor = factors[i] * x;
                if (divisor > 0) {
                    sum += dividends[i] / divisor;
                }
            }
            return sum;
        }
    }

    /** The recorded states, in a ring that has one slot more, where the next state is prepared. */
    private static final class Log {
        private static final int SLOTS = MAX_STATES + 1;

        private final Core[] slots = new Core[SLOTS];
        private int oldest = 0;
        private int size = 0;

        Log() {
            for (int i = 0; i < SLOTS; i++) {
                slots[i] = new Core();
            }
        }

        /** Copies the state before it is known whether the act will be an error. */
        void prepare(Core core) {
            Core slot = slots[(oldest + size) % SLOTS];
            if (slot != null) {
                slot.copyFrom(core);
            }
        }

        void keep() {
            if (size < MAX_STATES) {
                size++;
            } else {
                oldest = (oldest + 1) % SLOTS;
            }
        }

        int restore(Core core) {
            if (size == 0) {
                return NONE;
            }
            size--;
            Core slot = slots[(oldest + size) % SLOTS];
            if (slot != null) {
                core.copyFrom(slot);
            }
            return size;
        }
    }

    /** The characters that have been typed, and the words of the command in them that was read last. */
    private static final class Text {
        private static final int LEAST_CODE = 32;
        private static final int GREATEST_CODE = 126;
        /** No command has more words; further ones are counted, but not kept. */
        private static final int MAX_WORDS = 4;
        private static final int MAX_DIGITS = 9;

        int length = 0;
        int words = 0;
        private final char[] signs = new char[MAX_TEXT];
        private final int[] starts = new int[MAX_WORDS];
        private final int[] ends = new int[MAX_WORDS];

        int append(int code) {
            if (!isBetween(code, LEAST_CODE, GREATEST_CODE)) {
                return BAD_VALUE;
            }
            if (length >= MAX_TEXT) {
                return FULL;
            }
            signs[length] = (char) code;
            length++;
            return length;
        }

        int empty() {
            int previous = length;
            length = 0;
            return previous;
        }

        char at(int index) {
            return index >= 0 && index < length ? signs[index] : ' ';
        }

        /** Reads the command that stands from one index up to another one. */
        void readCommand(int from, int to) {
            words = 0;
            boolean inWord = false;
            for (int i = from; i < to; i++) {
                boolean blank = at(i) == ' ';
                if (!blank && !inWord) {
                    words++;
                    markStart(i);
                }
                if (!blank) {
                    markEnd(i + 1);
                }
                inWord = !blank;
            }
        }

        private void markStart(int index) {
            if (words >= 1 && words <= MAX_WORDS) {
                starts[words - 1] = index;
            }
        }

        private void markEnd(int index) {
            if (words >= 1 && words <= MAX_WORDS) {
                ends[words - 1] = index;
            }
        }

        private boolean hasWord(int index) {
            return index >= 0 && index < words && index < MAX_WORDS;
        }

        /** Whether the command is this word, followed by just so many numbers. */
        boolean isCommand(String firstWord, int numbers) {
            if (words != numbers + 1 || !isWord(0, firstWord)) {
                return false;
            }
            for (int i = 1; i <= numbers; i++) {
                if (!isNumber(i)) {
                    return false;
                }
            }
            return true;
        }

        boolean isWord(int index, String word) {
            if (!hasWord(index) || ends[index] - starts[index] != word.length()) {
                return false;
            }
            for (int i = 0; i < word.length(); i++) {
                if (at(starts[index] + i) != word.charAt(i)) {
                    return false;
                }
            }
            return true;
        }

        private boolean isNumber(int index) {
            if (!hasWord(index) || ends[index] - starts[index] > MAX_DIGITS) {
                return false;
            }
            for (int i = starts[index]; i < ends[index]; i++) {
                if (at(i) < '0' || at(i) > '9') {
                    return false;
                }
            }
            return true;
        }

        int number(int index) {
            if (!hasWord(index)) {
                return 0;
            }
            int number = 0;
            for (int i = starts[index]; i < ends[index]; i++) {
                number = 10 * number + (at(i) - '0');
            }
            return number;
        }
    }
}
