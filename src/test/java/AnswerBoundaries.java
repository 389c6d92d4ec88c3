/** The boundary cases that the promises 20 to 41 name. The answers were worked out from the document, not from the class. */
final class AnswerBoundaries extends BoundaryCheck {
    private static final Scene RICH = BoundaryCheck::rich;

    private AnswerBoundaries() {
    }

    static void check() {
        layersAndDepth();
        thicknessAccumulationCorrection();
        thinning();
        yearsAndDelay();
        residualAndCountError();
        fitting();
        age();
        gasAge();
        depthOf();
        gasDepthOf();
        lead();
        inversions();
        acts();
        seal();
        sealBits();
        bestFunction();
        bestFunctionTies();
        bestKink();
        neededAccumulation();
    }

    // ---- what there is

    private static void layersAndDepth() {
        sentence(20, "Returns the number of layers.");
        due("layers() of none", new IceCoreDater().layers(), 0);
        due("layers() of one", layers(1, 1).layers(), 1);
        due("layers() of sixteen", sixteenLayers().layers(), 16);
        due("layers() after all were removed", after(() -> layers(1, 1), x -> x.removeLowest()).layers(), 0);
        due("layers() after undo()", after(() -> layers(16, 1), x -> x.undo()).layers(), 15);
        sentence(21, "Returns the bottom of the lowest layer;");
        due("the least one", layers(1, 1).depth(), 1);
        due("the greatest one", layers(16, 5000).depth(), 80000);
        due("after divide()", after(RICH, x -> x.divide(1, 1)).depth(), 9000);
        due("after removeLowest()", after(RICH, x -> x.removeLowest()).depth(), 5000);
        sentence(21, "0 without layers.");
        due("depth() of a new core", new IceCoreDater().depth(), 0);
        due("depth() after all were removed", after(() -> layers(1, 5000), x -> x.removeLowest()).depth(), 0);
    }

    private static void thicknessAccumulationCorrection() {
        IceCoreDater x = new IceCoreDater();
        x.addLayer(1, 2000);
        x.addLayer(5000, 10);
        x.correct(0, 200);
        x.correct(1, 5000);
        int[] both = {0, 1};
        layerNumbers(22, RICH, IceCoreDater::thickness);
        sentence(22, "Returns its thickness;");
        dueAll("thickness", both, IceCoreDater::thickness, x, 1, 5000);
        due("thickness(15)", sixteenLayers().thickness(15), 60);
        layerNumbers(23, RICH, IceCoreDater::accumulation);
        sentence(23, "Returns its accumulation;");
        dueAll("accumulation", both, IceCoreDater::accumulation, x, 2000, 10);
        due("accumulation(15)", sixteenLayers().accumulation(15), 10);
        layerNumbers(24, RICH, IceCoreDater::correction);
        sentence(24, "Returns its correction;");
        dueAll("correction", both, IceCoreDater::correction, x, 200, 5000);
        due("correction(15)", sixteenLayers().correction(15), 1000);
    }

    private static void thinning() {
        layerNumbers(25, RICH, IceCoreDater::thinning);
        sentence(25, "Returns its thinning with the present thinning function;");
        IceCoreDater x = onBed(1000, 999, 1);
        dueAll("linear", new int[] {0, 1}, IceCoreDater::thinning, x, 501, 10);
        x.setFunction(1);
        dueAll("kinked", new int[] {0, 1}, IceCoreDater::thinning, x, 412, 10);
        x.setFunction(2);
        dueAll("told", new int[] {0, 1}, IceCoreDater::thinning, x, 1000, 1000);
        x.undo();
        due("kinked again", x.thinning(0), 412);
    }

    private static void yearsAndDelay() {
        layerNumbers(26, RICH, IceCoreDater::years);
        sentence(26, "Returns its years;");
        IceCoreDater x = yearly(1, 5000);
        x.correct(0, 1001);
        dueAll("years", new int[] {0, 1}, IceCoreDater::years, x, 0, 5000);
        x.tellThinning(1, 10);
        x.correct(1, 200);
        due("the most years", x.years(1), 2500000);
        layerNumbers(27, RICH, IceCoreDater::delay);
        sentence(27, "Returns its delay;");
        dueAll("delay", new int[] {0, 1}, IceCoreDater::delay, x, 6993, 35000);
        x.setCloseOff(15000);
        due("the longest delay", x.delay(1), 75000);
        x.setCloseOff(0);
        due("no delay", x.delay(1), 0);
    }

    private static void residualAndCountError() {
        layerNumbers(28, RICH, IceCoreDater::residual);
        sentence(28, "Returns the residual of its ash bed;");
        IceCoreDater x = yearly(10, 10);
        dueAll("residual of known age", new int[] {0, 9, 10, 11, 100000000}, (y, age) -> 0 * y.setAsh(0, age, 7) + y.residual(0), x,
            10, 1, 0, -1, 10 - 100000000);
        sentence(28, "NONE if it has none.");
        due("residual(1)", x.residual(1), NONE);
        due("residual(0) after removeAsh(0)", after(RICH, y -> y.removeAsh(0)).residual(0), NONE);
        layerNumbers(29, RICH, IceCoreDater::countError);
        sentence(29, "Returns its years minus its count;");
        dueAll("countError of count", new int[] {1, 9, 10, 11, 1000000}, (y, count) -> 0 * y.setCount(0, count) + y.countError(0), x,
            9, 1, 0, -1, 10 - 1000000);
        sentence(29, "NONE if it has no count.");
        due("countError(1)", x.countError(1), NONE);
        due("countError(2) after divide(2, 1)", after(RICH, y -> y.divide(2, 1)).countError(2), NONE);
    }

    private static void fitting() {
        sentence(30, "Returns the number of ash beds that fit.");
        due("fitting() without layers", new IceCoreDater().fitting(), 0);
        due("fitting() without beds", threeLayers().fitting(), 0);
        IceCoreDater x = layers(16, 1);
        x.setFunction(2);
        for (int i = 0; i < 16; i++) {
            due("fitting() of " + i, x.fitting(), i);
            x.setAsh(i, 2 * i + 1, i);
        }
        due("fitting() of sixteen", x.fitting(), 16);
        x.setAsh(8, 18, 8);
        due("fitting() of fifteen", x.fitting(), 15);
        x.setAsh(8, 0, 8);
        due("fitting() of fifteen", x.fitting(), 15);
        x.setAsh(8, 0, 9);
        due("fitting() of sixteen", x.fitting(), 16);
    }

    private static void age() {
        sentence(31, "`depth`: 0 to the bottom of the lowest layer");
        due("age(0)", rich().age(0), 0);
        due("age(9000)", rich().age(9000), 761);
        sentence(31, "Returns the age at this depth;");
        IceCoreDater x = yearly(1, 4, 1);
        x.correct(1, 500);
        dueAll("age", new int[] {0, 1, 2, 3, 4, 5, 6}, IceCoreDater::age, x, 0, 1, 3, 5, 7, 9, 10);
        sentence(31, "BAD_VALUE if depth is out of range (without layers, 0 alone is in range);");
        for (int depth : new int[] {-1, 9001, MIN, MAX}) {
            refused("age(" + depth + ")", RICH, y -> y.age(depth), BAD_VALUE);
        }
        dueAll("age without layers", new int[] {-1, 0, 1, MIN, MAX}, IceCoreDater::age, new IceCoreDater(),
            BAD_VALUE, NOT_POSSIBLE, BAD_VALUE, BAD_VALUE, BAD_VALUE);
        sentence(31, "NOT_POSSIBLE if there is no layer.");
        refused("age(0)", IceCoreDater::new, y -> y.age(0), NOT_POSSIBLE);
        due("age(0) after all were removed", after(() -> layers(1, 5), y -> y.removeLowest()).age(0), NOT_POSSIBLE);
        due("age(0) of one layer", layers(1, 1).age(0), 0);
    }

    private static void gasAge() {
        sentence(32, "`depth`: 0 to the bottom of the lowest layer");
        due("gasAge(0)", rich().gasAge(0), 0);
        due("gasAge(9000)", rich().gasAge(9000), 61);
        sentence(32, "Returns the gas age at this depth;");
        IceCoreDater x = yearly(10, 10);
        x.setCloseOff(4);
        x.correct(1, 500);
        dueAll("gasAge", new int[] {0, 3, 4, 5, 9, 10, 11, 12, 20}, IceCoreDater::gasAge, x, 0, 0, 0, 1, 5, 6, 4, 6, 22);
        sentence(32, "BAD_VALUE if depth is out of range (without layers, 0 alone is in range);");
        for (int depth : new int[] {-1, 9001, MIN, MAX}) {
            refused("gasAge(" + depth + ")", RICH, y -> y.gasAge(depth), BAD_VALUE);
        }
        dueAll("gasAge without layers", new int[] {-1, 0, 1, MIN, MAX}, IceCoreDater::gasAge, new IceCoreDater(),
            BAD_VALUE, NOT_POSSIBLE, BAD_VALUE, BAD_VALUE, BAD_VALUE);
        sentence(32, "NOT_POSSIBLE if there is no layer.");
        refused("gasAge(0)", IceCoreDater::new, y -> y.gasAge(0), NOT_POSSIBLE);
        due("gasAge(0) after all were removed", after(() -> layers(1, 5), y -> y.removeLowest()).gasAge(0), NOT_POSSIBLE);
        due("gasAge(0) of one layer", layers(1, 1).gasAge(0), 0);
    }

    private static void depthOf() {
        sentence(33, "`age`: 0 or more");
        due("depthOf(0)", rich().depthOf(0), 0);
        due("depthOf(max)", rich().depthOf(MAX), NONE);
        sentence(33, "Returns the least depth at which the age is at least this;");
        IceCoreDater x = yearly(3, 4, 3);
        x.correct(0, 3000);
        x.correct(1, 500);
        due("years(0)", x.years(0), 1);
        // The ages from the depth 0 on are 0, 0, 0, 1, 3, 5, 7, 9, 10, 11 and 12.
        dueAll("depthOf", new int[] {0, 1, 2, 3, 4, 5, 8, 9, 10, 12, 13}, IceCoreDater::depthOf, x, 0, 3, 4, 4, 5, 5, 7, 7, 8, 10, NONE);
        x.correct(1, 5000);
        x.tellThinning(1, 1000);
        due("years(1), none", x.years(1), 0);
        dueAll("depthOf over a layer of no years", new int[] {1, 2, 4, 5}, IceCoreDater::depthOf, x, 3, 8, 10, NONE);
        x = yearly(5, 3);
        x.correct(0, 5000);
        dueAll("depthOf, 1 year in 5 centimeters", new int[] {0, 1, 2}, IceCoreDater::depthOf, x, 0, 5, 6);
        sentence(33, "BAD_VALUE if age is negative;");
        refused("depthOf(-1)", RICH, y -> y.depthOf(-1), BAD_VALUE);
        refused("depthOf(min)", RICH, y -> y.depthOf(MIN), BAD_VALUE);
        refused("depthOf(-1) without layers", IceCoreDater::new, y -> y.depthOf(-1), BAD_VALUE);
        sentence(33, "NONE if there is none (also without layers).");
        dueAll("depthOf", new int[] {761, 762, MAX}, IceCoreDater::depthOf, rich(), 9000, NONE, NONE);
        dueAll("depthOf without layers", new int[] {0, 1, MAX}, IceCoreDater::depthOf, new IceCoreDater(), NONE, NONE, NONE);
        due("depthOf(0) after all were removed", after(() -> layers(1, 5), y -> y.removeLowest()).depthOf(0), NONE);
        changesNothing("depthOf(762)", RICH, y -> y.depthOf(762));
    }

    private static void gasDepthOf() {
        sentence(34, "`age`: 0 or more");
        due("gasDepthOf(0)", rich().gasDepthOf(0), 0);
        due("gasDepthOf(max)", rich().gasDepthOf(MAX), NONE);
        sentence(34, "Returns the least depth at which the gas age is at least this;");
        IceCoreDater x = yearly(1000, 1000);
        x.setCloseOff(500);
        x.correct(1, 2000);
        // Up to the border the gas is 500 years younger than the ice, below it 250.
        dueAll("gasDepthOf", new int[] {0, 1, 499, 500, 501, 750, 751, 752, 1250, 1251}, IceCoreDater::gasDepthOf, x,
            0, 501, 999, 1000, 1001, 1001, 1002, 1004, 2000, NONE);
        x.correct(0, 2000);
        x.correct(1, 1000);
        // Now 250 years down to the border, which is 500 years old, and 500 below it.
        dueAll("gasDepthOf", new int[] {0, 1, 2, 250, 251, 1000, 1001}, IceCoreDater::gasDepthOf, x, 0, 502, 504, 1000, 1251, 2000, NONE);
        x = yearly(10, 10, 10);
        x.setCloseOff(40);
        x.correct(2, 200);
        dueAll("no gas age before the end", new int[] {0, 1}, IceCoreDater::gasDepthOf, x, 0, NONE);
        x.setCloseOff(0);
        dueAll("without delays", new int[] {0, 1, 20, 21, 25, 26, 70, 71}, IceCoreDater::gasDepthOf, x, 0, 1, 20, 21, 21, 22, 30, NONE);
        x.setCloseOff(20);
        x.correct(1, 5000);
        x.correct(2, 1000);
        due("years(1)", x.years(1), 2);
        // The delays are 20, 4 and 20: the gas ages are 0 down to 10, then 6 to 8, then 0 to 2.
        dueAll("a top whose gas is old enough", new int[] {1, 6, 7, 8, 9}, IceCoreDater::gasDepthOf, x, 11, 11, 15, 20, NONE);
        sentence(34, "BAD_VALUE if age is negative;");
        refused("gasDepthOf(-1)", RICH, y -> y.gasDepthOf(-1), BAD_VALUE);
        refused("gasDepthOf(min)", RICH, y -> y.gasDepthOf(MIN), BAD_VALUE);
        refused("gasDepthOf(-1) without layers", IceCoreDater::new, y -> y.gasDepthOf(-1), BAD_VALUE);
        sentence(34, "NONE if there is none (also without layers).");
        dueAll("gasDepthOf", new int[] {61, 62, MAX}, IceCoreDater::gasDepthOf, rich(), 9000, NONE, NONE);
        dueAll("gasDepthOf without layers", new int[] {0, 1, MAX}, IceCoreDater::gasDepthOf, new IceCoreDater(), NONE, NONE, NONE);
        due("gasDepthOf(0) after all were removed", after(() -> layers(1, 5), y -> y.removeLowest()).gasDepthOf(0), NONE);
        changesNothing("gasDepthOf(62)", RICH, y -> y.gasDepthOf(62));
    }

    private static void lead() {
        sentence(35, "Compares an event that is recorded in the ice with one that is recorded in the gas.");
        IceCoreDater x = yearly(1000, 1000);
        x.setCloseOff(500);
        x.correct(1, 2000);
        due("the same age", x.lead(500, 1000), 0);
        sentence(35, "`ice`: depth of the first event, 0 to the bottom of the lowest layer");
        due("lead(0, 2000)", x.lead(0, 2000), -1250);
        due("lead(2000, 2000)", x.lead(2000, 2000), 250);
        sentence(35, "`gas`: depth of the second event, 0 to the bottom of the lowest layer");
        due("lead(2000, 0)", x.lead(2000, 0), 1500);
        due("lead(1000, 2000)", x.lead(1000, 2000), -250);
        sentence(35, "Returns the age of the first event minus the gas age of the second one;");
        due("lead(0, 0)", x.lead(0, 0), 0);
        due("lead(1000, 500)", x.lead(1000, 500), 1000);
        due("lead(1000, 501)", x.lead(1000, 501), 999);
        due("at the border the upper one counts", x.lead(1000, 1000), 500);
        due("below it the lower one", x.lead(1000, 1001), 250);
        sentence(35, "BAD_VALUE if a depth is out of range;");
        for (int depth : new int[] {-1, 9001, MIN, MAX}) {
            refused("lead(" + depth + ", 0)", RICH, y -> y.lead(depth, 0), BAD_VALUE);
            refused("lead(0, " + depth + ")", RICH, y -> y.lead(0, depth), BAD_VALUE);
            refused("lead(" + depth + ", " + depth + ")", RICH, y -> y.lead(depth, depth), BAD_VALUE);
        }
        for (int depth : new int[] {-1, 1}) {
            refused("lead(" + depth + ", 0) without layers", IceCoreDater::new, y -> y.lead(depth, 0), BAD_VALUE);
            refused("lead(0, " + depth + ") without layers", IceCoreDater::new, y -> y.lead(0, depth), BAD_VALUE);
        }
        sentence(35, "NOT_POSSIBLE if there is no layer.");
        refused("lead(0, 0)", IceCoreDater::new, y -> y.lead(0, 0), NOT_POSSIBLE);
        due("lead(0, 0) of one layer", layers(1, 1).lead(0, 0), 0);
    }

    private static void inversions() {
        sentence(36, "Counts the borders at which gas becomes younger downward.");
        due("inversions() without layers", new IceCoreDater().inversions(), 0);
        due("inversions() without a border", yearly(5000).inversions(), 0);
        sentence(36, "Returns the number of layers, but for the lowest one, whose gas age at the bottom is greater than the gas age 1"
            + " centimeter below it.");
        IceCoreDater x = yearly(5000, 1000);
        x.setCloseOff(1000);
        due("4000 and 4001", x.inversions(), 0);
        x.correct(1, 999);
        due("4000 and 4000", x.inversions(), 0);
        due("gasAge(5000)", x.gasAge(5000), 4000);
        due("gasAge(5001)", x.gasAge(5001), 4000);
        x.correct(1, 998);
        due("4000 and 3999", x.inversions(), 1);
        x.setCloseOff(5000);
        due("0 and 0", x.inversions(), 0);
        x.setCloseOff(4999);
        due("1 and 0", x.inversions(), 1);
        x.removeLowest();
        due("the lowest layer has nothing below it", x.inversions(), 0);
        x = yearly();
        for (int i = 0; i < 16; i++) {
            x.addLayer(1, 10);
            x.correct(i, 1000 - 50 * i);
            x.tellThinning(i, 10);
        }
        x.setCloseOff(75);
        // All years are 100 or more, so that no delay can make the gas younger downward.
        due("no border of sixteen layers", x.inversions(), 0);
        for (int i = 0; i < 16; i++) {
            x.tellThinning(i, 1000);
            x.correct(i, 5000);
        }
        due("no years at all", x.inversions(), 0);
        x = oldest(16);
        due("all borders of sixteen layers", x.inversions(), 15);
        x.removeLowest();
        due("all borders of fifteen layers", x.inversions(), 14);
    }

    /** The first layer is very old, so that the delays, which grow downward, show at each border. */
    private static IceCoreDater oldest(int many) {
        IceCoreDater x = yearly(5000);
        x.tellThinning(0, 10);
        x.correct(0, 5000);
        for (int i = 1; i < many; i++) {
            x.addLayer(1, 10);
            x.correct(i, 5000 - 200 * i);
        }
        return x;
    }

    private static void acts() {
        sentence(37, "Returns the number of acts since the core was created");
        IceCoreDater x = new IceCoreDater();
        due("acts() of a new core", x.acts(), 0);
        for (int i = 1; i <= 200; i++) {
            x.setKink(i);
            due("acts()", x.acts(), i);
        }
        sentence(37, "(calls that return an error do not count;");
        x.setKink(901);
        x.addLayer(1, 9);
        x.removeLowest();
        x.divide(0, 1);
        x.tune();
        due("acts()", x.acts(), 200);
        sentence(37, "a run() counts once, its commands do not;");
        runs(x, "kink 1;kink 2;kink 3", 3, 0);
        due("acts()", x.acts(), 201);
        runs(x, "kink 1;kink 901", 1, BAD_VALUE);
        due("acts()", x.acts(), 202);
        runs(x, "", 0, 1);
        due("acts()", x.acts(), 203);
        sentence(37, "undo() is no act, and does not change it).");
        for (int i = 0; i < 9; i++) {
            x.undo();
            due("acts() after undo()", x.acts(), 203);
        }
        x.setKink(1);
        due("acts()", x.acts(), 204);
        x.type('x');
        x.clearText();
        x.depth();
        x.bestKink();
        due("what is not called an act", x.acts(), 204);
    }

    private static void seal() {
        sentence(38, "Returns a seal of the ages: it begins with 7;");
        due("seal() without layers", new IceCoreDater().seal(), 7);
        due("seal() of a layer of 0 years", after(() -> yearly(1), x -> x.correct(0, 5000)).seal(), 217);
        sentence(38, "for each layer, from the surface downward, it becomes 31 * seal + (age at its bottom), in int arithmetic with overflow.");
        due("seal() of one layer", yearly(100).seal(), 317);
        due("seal() of two layers", yearly(100, 1).seal(), 31 * 317 + 101);
        due("seal() of the same from below", yearly(1, 100).seal(), 31 * 218 + 101);
        IceCoreDater x = yearly();
        int seal = 7;
        for (int i = 1; i <= 16; i++) {
            x.addLayer(5000, 10);
            seal = 31 * seal + 5000 * i;
            due("seal() of " + i + " layers", x.seal(), (short) seal);
        }
        due("seal() of sixteen layers", x.seal(), -18873);
        due("seal() of the greatest ages", greatestAges().seal(), -8441);
    }

    private static IceCoreDater greatestAges() {
        IceCoreDater x = layers(16, 5000);
        x.setFunction(2);
        for (int i = 0; i < 16; i++) {
            x.tellThinning(i, 10);
            x.correct(i, 200);
        }
        return x;
    }

    private static void sealBits() {
        sentence(38, "Returns the lowest 16 bits of the seal, as a signed number (-32768 to 32767).");
        // One layer, whose seal is 217 and its years.
        int[][] layers = {{651, 2000, 32550, 32767}, {111, 341, 32551, -32768}, {420, 643, 65318, -1}, {194, 297, 65319, 0}};
        for (int[] layer : layers) {
            IceCoreDater x = yearly(layer[0]);
            x.tellThinning(0, 10);
            x.correct(0, layer[1]);
            due("years(0)", x.years(0), layer[2]);
            due("seal() of " + layer[2] + " years", x.seal(), layer[3]);
        }
    }

    // ---- what would be

    /** A layer of 5128 years with the function 0, of 5154 years with 1, of 5000 years with 2. */
    private static IceCoreDater oneOld() {
        IceCoreDater x = new IceCoreDater();
        x.addLayer(5000, 10);
        return x;
    }

    private static int bestFunction(IceCoreDater x, int known) {
        x.setAsh(0, known, 0);
        return x.bestFunction();
    }

    private static void bestFunction() {
        sentence(39, "Finds the best thinning function for the ash beds.");
        dueAll("best function for the known age", new int[] {5128, 5154, 5000, 0, 100000000}, AnswerBoundaries::bestFunction, oneOld(),
            0, 1, 2, 2, 1);
        changesNothing("bestFunction()", RICH, x -> x.bestFunction());
        sentence(39, "Returns the thinning function with which the sum of the absolute residuals is least,");
        dueAll("best function for the known age", new int[] {5142, 5063, 5062, 5143}, AnswerBoundaries::bestFunction, oneOld(), 1, 2, 2, 1);
        for (int function = 0; function <= 2; function++) {
            IceCoreDater x = oneOld();
            x.addLayer(5000, 10);
            x.setFunction(function);
            x.setAsh(0, 6128, 10000);
            x.setAsh(1, 9533, 10000);
            due("the sums are 2000, 2083 and 1595", x.bestFunction(), 2);
            x.removeAsh(0);
            due("the residuals are 1000, 1109 and 467", x.bestFunction(), 2);
            x.setAsh(0, 5154, 0);
            x.setAsh(1, 10600, 0);
            due("the sums are 93, 42 and 754", x.bestFunction(), 1);
        }
    }

    private static void bestFunctionTies() {
        sentence(39, "the lowest one if there are several;");
        dueAll("as near with 0 and 1, with 0 and 2", new int[] {5141, 5064}, AnswerBoundaries::bestFunction, oneOld(), 0, 0);
        IceCoreDater x = oneOld();
        x.tellThinning(0, 970);
        due("the same with 1 and 2", bestFunction(x, 5154), 1);
        due("the same with 1 and 2", bestFunction(x, 100000000), 1);
        x.tellThinning(0, 975);
        due("the same with 0 and 2", bestFunction(x, 5128), 0);
        due("the same with 0 and 2", bestFunction(x, 0), 0);
        x.setKink(0);
        due("the same with all", bestFunction(x, 7), 0);
        x.setFunction(2);
        due("the same with all", bestFunction(x, 5154), 0);
        sentence(39, "NONE if there is no ash bed.");
        due("bestFunction() without layers", new IceCoreDater().bestFunction(), NONE);
        due("bestFunction() without beds", threeLayers().bestFunction(), NONE);
        due("bestFunction() without the only bed", after(() -> x, y -> y.removeAsh(0)).bestFunction(), NONE);
        changesNothing("bestFunction() without beds", BoundaryCheck::threeLayers, y -> y.bestFunction());
    }

    /** With function 1 it has 50000 years (kink 0), 50709 (25), .., 98814 (875) and 99206 (900). */
    private static IceCoreDater kinkedIce() {
        IceCoreDater x = new IceCoreDater();
        x.setBed(5000);
        x.addLayer(5000, 10);
        x.correct(0, 200);
        return x;
    }

    private static int bestKink(IceCoreDater x, int known) {
        x.setAsh(0, known, 0);
        return x.bestKink();
    }

    private static void bestKink() {
        sentence(40, "Finds the best kink for the ash beds, with the thinning function 1;");
        for (int function = 0; function <= 2; function++) {
            IceCoreDater x = kinkedIce();
            x.setFunction(function);
            x.setKink(899 * function / 2);
            dueAll("best kink for the known age", new int[] {50000, 50709, 98814, 99206}, AnswerBoundaries::bestKink, x, 0, 25, 875, 900);
        }
        changesNothing("bestKink()", RICH, x -> x.bestKink());
        sentence(40, "the kinks 0, 25, 50 and so on, up to 900, are compared.");
        IceCoreDater x = kinkedIce();
        // The kink 10 would have 50301 years.
        dueAll("best kink for the known age", new int[] {0, 50301, 100000000, 99207, 100000}, AnswerBoundaries::bestKink, x, 0, 0, 900, 900, 900);
        for (int kink = 0; kink <= 900; kink += 25) {
            x.setKink(kink);
            x.setFunction(1);
            int years = x.years(0);
            x.setFunction(0);
            due("best kink for the years with it", bestKink(x, years), kink);
        }
        sentence(40, "Returns the kink with which the sum of the absolute residuals is least,");
        dueAll("best kink for the known age", new int[] {50354, 50355, 99009, 99011}, AnswerBoundaries::bestKink, kinkedIce(), 0, 25, 875, 900);
        x = onBed(5000);
        x.addLayer(2, 2000);
        x.addLayer(4998, 10);
        x.correct(1, 200);
        x.setAsh(1, 50384, 0);
        due("50080 years with 0, 50689 with 25", x.bestKink(), 0);
        x.setAsh(1, 50385, 0);
        due("50080 years with 0, 50689 with 25", x.bestKink(), 25);
        x = onBed(10000);
        x.addLayer(5000, 10);
        x.addLayer(5000, 10);
        x.setAsh(0, 100000, 0);
        x.setAsh(1, 0, 0);
        due("what the upper residual gains the lower one loses, and more", x.bestKink(), 0);
        x.setAsh(1, 100000, 0);
        due("both residuals are too low", x.bestKink(), 900);
        sentence(40, "the least one if there are several;");
        due("as near with 875 and 900", bestKink(kinkedIce(), 99010), 875);
        x = new IceCoreDater();
        x.addLayer(1, 2000);
        due("0 years with all kinks", bestKink(x, 0), 0);
        due("0 years with all kinks", bestKink(x, 7), 0);
        sentence(40, "NONE if there is no ash bed.");
        due("bestKink() without layers", new IceCoreDater().bestKink(), NONE);
        due("bestKink() without beds", threeLayers().bestKink(), NONE);
        due("bestKink() without the only bed", after(() -> after(() -> layers(1, 9), y -> y.setAsh(0, 5, 0)), y -> y.removeAsh(0)).bestKink(), NONE);
        changesNothing("bestKink() without beds", BoundaryCheck::threeLayers, y -> y.bestKink());
    }

    private static int needed(IceCoreDater x, int count) {
        x.setCount(0, count);
        return x.neededAccumulation(0);
    }

    private static void neededAccumulation() {
        sentence(41, "Tells which accumulation a layer would need for its count.");
        changesNothing("neededAccumulation(2)", RICH, x -> x.neededAccumulation(2));
        due("neededAccumulation(2)", rich().neededAccumulation(2), 107);
        layerNumbers(41, RICH, IceCoreDater::neededAccumulation);
        sentence(41, "Returns the accumulation, 10 to 2000,");
        // 50000 / accumulation years, and 25000000 / accumulation years.
        IceCoreDater x = yearly(5000);
        IceCoreDater old = yearly(5000);
        old.correct(0, 200);
        old.tellThinning(0, 10);
        dueAll("the least accumulation for count", new int[] {1000000, 5556, 5001, 5000, 4999}, AnswerBoundaries::needed, x, 10, 10, 10, 10, 10);
        dueAll("the greatest accumulation for count", new int[] {1, 12493, 12499, 12500, 12502}, AnswerBoundaries::needed, old,
            2000, 2000, 2000, 2000, 2000);
        sentence(41, "with which |years - count| is least,");
        dueAll("accumulation for count", new int[] {4773, 4772, 4545, 4005}, AnswerBoundaries::needed, x, 10, 11, 11, 13);
        dueAll("accumulation for count", new int[] {12502, 12504, 12506, 1000000}, AnswerBoundaries::needed, old, 2000, 1999, 1999, 25);
        sentence(41, "the least one if there are several;");
        dueAll("as near with 12 and 13", new int[] {4006}, AnswerBoundaries::needed, x, 12);
        dueAll("as near with 1999 and 2000", new int[] {12503}, AnswerBoundaries::needed, old, 1999);
        dueAll("25 years from 1924 to 2000", new int[] {25, 24, 1}, AnswerBoundaries::needed, x, 1924, 1924, 1924);
        dueAll("one year with 10, none with more", new int[] {1, 2, 1000000}, AnswerBoundaries::needed, yearly(1), 10, 10, 10);
        x = yearly(1);
        x.correct(0, 5000);
        dueAll("no years at all", new int[] {1, 1000000}, AnswerBoundaries::needed, x, 10, 10);
        sentence(41, "NONE if it has no count.");
        due("neededAccumulation(0)", rich().neededAccumulation(0), NONE);
        due("neededAccumulation(3) after divide(2, 1)", after(RICH, y -> y.divide(2, 1)).neededAccumulation(3), NONE);
        changesNothing("neededAccumulation(0)", RICH, y -> y.neededAccumulation(0));
    }
}
