/** The boundary cases that the promises 1 to 15 name. The answers were worked out by hand. */
final class ActBoundaries extends BoundaryCheck {
    private static final Scene RICH = BoundaryCheck::rich;

    private ActBoundaries() {
    }

    static void check() {
        newObject();
        addLayer();
        addLayerErrors();
        removeLowest();
        divide();
        divideErrors();
        setBed();
        setFunction();
        setKink();
        tellThinning();
        correct();
        setCloseOff();
        setAsh();
        removeAsh();
        setCount();
        tuneSegments();
        tuneRange();
        tuneNearest();
        tuneAnswers();
        undo();
    }

    private static void newObject() {
        sentence(1, "Creates a core without layers.");
        IceCoreDater other = rich();
        IceCoreDater x = new IceCoreDater();
        due("layers()", x.layers(), 0);
        due("depth()", x.depth(), 0);
        due("thickness(0)", x.thickness(0), NO_SUCH_LAYER);
        due("acts()", x.acts(), 0);
        due("failure()", x.failure(), NONE);
        due("clearText()", x.clearText(), 0);
        due("undo()", x.undo(), NONE);
        due("layers() of another object", other.layers(), 3);
    }

    // ---- the core

    private static void addLayer() {
        sentence(2, "Adds a layer below all others.");
        IceCoreDater x = new IceCoreDater();
        x.addLayer(1, 10);
        due("depth() with one layer", x.depth(), 1);
        x.addLayer(2, 20);
        due("depth() with two layers", x.depth(), 3);
        dueAll("thickness", new int[] {0, 1}, IceCoreDater::thickness, x, 1, 2);
        x = layers(15, 5000);
        x.addLayer(7, 2000);
        due("depth() with sixteen layers", x.depth(), 75007);
        dueAll("thickness", new int[] {0, 14, 15}, IceCoreDater::thickness, x, 5000, 5000, 7);
        x = rich();
        x.setAsh(2, 700, 1);
        x.correct(2, 900);
        x.tellThinning(2, 70);
        x.removeLowest();
        x.addLayer(9, 30);
        due("the bed of a layer that was there", x.residual(2), NONE);
        due("its count", x.countError(2), NONE);
        due("its correction", x.correction(2), 1000);
        due("its told thinning", x.tellThinning(2, 10), 1000);
        sentence(2, "This is an act.");
        act("addLayer(1, 10)", IceCoreDater::new, y -> y.addLayer(1, 10));
        act("addLayer(1, 10)", RICH, y -> y.addLayer(1, 10));
        act("the last addLayer", () -> layers(15, 60), y -> y.addLayer(1, 10));
        range(2, "`thickness`: 1 to 5000", RICH, (y, t) -> y.addLayer(t, 10), 1, 5000);
        range(2, "`accumulation`: 10 to 2000", RICH, (y, a) -> y.addLayer(1, a), 10, 2000);
        sentence(2, "Returns the number of the layer;");
        x = new IceCoreDater();
        for (int i = 0; i < 16; i++) {
            due("addLayer(1, 10)", x.addLayer(1, 10), i);
        }
        x.removeLowest();
        x.removeLowest();
        due("addLayer(1, 10)", x.addLayer(1, 10), 14);
    }

    private static void addLayerErrors() {
        beyond(2, "BAD_VALUE if an argument is out of range;", RICH, (x, t) -> x.addLayer(t, 10), 1, 5000);
        for (int accumulation : new int[] {9, 2001, 0, -10, MIN, MAX}) {
            refused("addLayer(1, " + accumulation + ")", RICH, x -> x.addLayer(1, accumulation), BAD_VALUE);
        }
        refused("addLayer(0, 9)", RICH, x -> x.addLayer(0, 9), BAD_VALUE);
        sentence(2, "NOT_POSSIBLE if its bottom would lie below the bed;");
        due("a bottom on the bed", onBed(1000, 1, 499).addLayer(500, 10), 2);
        refused("a bottom 1 below the bed", () -> onBed(1000, 1, 499), x -> x.addLayer(501, 10), NOT_POSSIBLE);
        refused("a top on the bed", () -> onBed(1000, 1000), x -> x.addLayer(1, 10), NOT_POSSIBLE);
        refused("a first layer", () -> onBed(1000), x -> x.addLayer(1001, 10), NOT_POSSIBLE);
        due("a first layer", onBed(1000).addLayer(1000, 10), 0);
        sentence(2, "FULL if there are 16 layers.");
        due("the sixteenth", layers(15, 1).addLayer(1, 10), 15);
        refused("the seventeenth", BoundaryCheck::sixteenLayers, x -> x.addLayer(1, 10), FULL);
        refused("the seventeenth, on the bed", () -> after(BoundaryCheck::sixteenLayers, x -> x.setBed(1000)), x -> x.addLayer(40, 10), FULL);
    }

    private static void removeLowest() {
        sentence(3, "Removes the lowest layer, with its ash bed and its count.");
        IceCoreDater x = rich();
        x.setAsh(2, 700, 100);
        due("fitting()", x.fitting(), 2);
        x.removeLowest();
        due("depth()", x.depth(), 5000);
        due("fitting()", x.fitting(), 1);
        due("the number of beds", x.setAsh(1, 320, 10), 2);
        x.addLayer(4000, 100);
        due("residual(2)", x.residual(2), NONE);
        due("countError(2)", x.countError(2), NONE);
        x = yearly(10);
        x.setAsh(0, 10, 0);
        x.setCount(0, 10);
        x.removeLowest();
        due("bestKink() without the only bed", x.bestKink(), NONE);
        sentence(3, "This is an act.");
        act("removeLowest()", RICH, y -> y.removeLowest());
        act("removeLowest() of the only layer", () -> layers(1, 60), y -> y.removeLowest());
        act("removeLowest() of sixteen layers", BoundaryCheck::sixteenLayers, y -> y.removeLowest());
        sentence(3, "Returns the number of layers that are left;");
        x = sixteenLayers();
        for (int left = 15; left >= 0; left--) {
            due("removeLowest()", x.removeLowest(), left);
        }
        sentence(3, "NOT_POSSIBLE if there is no layer.");
        due("removeLowest()", x.removeLowest(), NOT_POSSIBLE);
        refused("removeLowest() of a new core", IceCoreDater::new, y -> y.removeLowest(), NOT_POSSIBLE);
    }

    private static void divide() {
        sentence(4, "Divides a layer into two: the upper one has the given thickness and keeps the number, the lower one has the"
            + " rest and the next number (the numbers of the layers below increase by 1).");
        dueAll("thickness", new int[] {0, 1, 2, 3}, IceCoreDater::thickness, after(RICH, x -> x.divide(0, 1)), 1, 1999, 3000, 4000);
        dueAll("thickness", new int[] {0, 1, 2, 3}, IceCoreDater::thickness, after(RICH, x -> x.divide(1, 2999)), 2000, 2999, 1, 4000);
        dueAll("thickness", new int[] {0, 1, 2, 3, 4}, IceCoreDater::thickness, after(RICH, x -> x.divide(2, 3999)),
            2000, 3000, 3999, 1, NO_SUCH_LAYER);
        dueAll("accumulation", new int[] {0, 1, 2, 3}, IceCoreDater::accumulation, after(RICH, x -> x.divide(0, 1)), 200, 200, 150, 100);
        dueAll("countError", new int[] {2, 3}, IceCoreDater::countError, after(RICH, x -> x.divide(0, 1)), NONE, 30);
        sentence(4, "Both have the accumulation, the correction and the told thinning of the layer.");
        IceCoreDater x = after(RICH, y -> y.divide(1, 1));
        dueAll("accumulation", new int[] {0, 1, 2, 3}, IceCoreDater::accumulation, x, 200, 150, 150, 100);
        dueAll("correction", new int[] {0, 1, 2, 3}, IceCoreDater::correction, x, 1000, 900, 900, 1000);
        dueAll("told", new int[] {0, 1, 2, 3}, (y, layer) -> y.tellThinning(layer, 19), x, 1000, 400, 400, 1000);
        sentence(4, "An ash bed belongs to the lower one then;");
        x = after(RICH, y -> y.divide(0, 1999));
        dueAll("residual", new int[] {0, 1, 2, 3}, IceCoreDater::residual, x, NONE, -6, 10, NONE);
        x = yearly(10, 20);
        x.setAsh(1, 35, 5);
        x.divide(1, 19);
        dueAll("residual", new int[] {0, 1, 2}, IceCoreDater::residual, x, NONE, NONE, -5);
        due("with its tolerance", x.fitting(), 1);
        x.setAsh(0, 15, 5);
        x.divide(0, 1);
        dueAll("residual", new int[] {0, 1, 2, 3}, IceCoreDater::residual, x, NONE, -5, NONE, -5);
        due("with its tolerance", x.fitting(), 2);
        sentence(4, "a count is removed.");
        x = after(RICH, y -> y.divide(2, 1));
        dueAll("countError", new int[] {2, 3}, IceCoreDater::countError, x, NONE, NONE);
        sentence(4, "This is an act.");
        act("divide(0, 1)", RICH, y -> y.divide(0, 1));
        act("divide(2, 3999)", RICH, y -> y.divide(2, 3999));
        act("divide(14, 30)", () -> layers(15, 60), y -> y.divide(14, 30));
    }

    private static void divideErrors() {
        layerNumbers(4, RICH, (x, layer) -> x.divide(layer, 1));
        range(4, "`thickness`: of the upper one, 1 to the thickness of the layer minus 1", RICH, (x, t) -> x.divide(1, t), 1, 2999);
        due("2 centimeters", onBed(1000, 2).divide(0, 1), 2);
        sentence(4, "Returns the new number of layers;");
        IceCoreDater x = layers(1, 20);
        for (int many = 2; many <= 16; many++) {
            due("divide(" + (many - 2) + ", 1)", x.divide(many - 2, 1), many);
        }
        due("depth()", x.depth(), 20);
        beyond(4, "BAD_VALUE if thickness is out of range;", RICH, (y, t) -> y.divide(1, t), 1, 2999);
        refused("1 centimeter can't be divided", () -> onBed(1000, 1), y -> y.divide(0, 1), BAD_VALUE);
        refused("1 centimeter can't be divided", () -> onBed(1000, 1), y -> y.divide(0, 0), BAD_VALUE);
        sentence(4, "FULL if there are 16 layers.");
        refused("divide(0, 1)", BoundaryCheck::sixteenLayers, y -> y.divide(0, 1), FULL);
        refused("divide(15, 59)", BoundaryCheck::sixteenLayers, y -> y.divide(15, 59), FULL);
        due("divide(0, 59) of fifteen", layers(15, 60).divide(0, 59), 16);
    }

    private static void setBed() {
        sentence(5, "Sets the depth of the bed.");
        IceCoreDater x = onBed(1000, 1000);
        x.setBed(200000);
        due("thinning(0)", x.thinning(0), 997);
        due("addLayer(5000, 10)", x.addLayer(5000, 10), 1);
        sentence(5, "This is an act.");
        act("setBed(9000)", RICH, y -> y.setBed(9000));
        act("setBed(100000), as it was", RICH, y -> y.setBed(100000));
        range(5, "`depth`: 1000 to 200000", IceCoreDater::new, IceCoreDater::setBed, 1000, 200000);
        sentence(5, "Returns the previous depth of the bed;");
        dueAll("setBed", new int[] {1000, 200000, 200000, 7}, IceCoreDater::setBed, new IceCoreDater(), 100000, 1000, 200000, BAD_VALUE);
        beyond(5, "BAD_VALUE if depth is out of range;", RICH, IceCoreDater::setBed, 1000, 200000);
        refused("setBed(999) without layers", IceCoreDater::new, y -> y.setBed(999), BAD_VALUE);
        sentence(5, "NOT_POSSIBLE if the bottom of the lowest layer would lie below it.");
        refused("setBed(8999)", RICH, y -> y.setBed(8999), NOT_POSSIBLE);
        refused("setBed(1000)", RICH, y -> y.setBed(1000), NOT_POSSIBLE);
        due("setBed(9000)", rich().setBed(9000), 100000);
        due("setBed(80000)", layers(16, 5000).setBed(80000), 100000);
        due("setBed(79999)", layers(16, 5000).setBed(79999), NOT_POSSIBLE);
    }

    private static void setFunction() {
        sentence(6, "Sets the thinning function.");
        IceCoreDater x = onBed(1000, 1000);
        x.tellThinning(0, 77);
        dueAll("thinning(0) with function", new int[] {2, 1, 0}, (y, f) -> 0 * y.setFunction(f) + y.thinning(0), x, 77, 411, 500);
        sentence(6, "This is an act.");
        act("setFunction(2)", RICH, y -> y.setFunction(2));
        act("setFunction(0), as it was", RICH, y -> y.setFunction(0));
        range(6, "`function`: 0 to 2", RICH, IceCoreDater::setFunction, 0, 2);
        sentence(6, "Returns the previous thinning function;");
        dueAll("setFunction", new int[] {2, 2, 1, 0, 0, 3, 1}, IceCoreDater::setFunction, rich(), 0, 2, 2, 1, 0, BAD_VALUE, 0);
        beyond(6, "BAD_VALUE if function is out of range.", RICH, IceCoreDater::setFunction, 0, 2);
    }

    private static void setKink() {
        sentence(7, "Sets the kink.");
        IceCoreDater x = onBed(1000, 1000);
        x.setFunction(1);
        dueAll("thinning(0) with kink", new int[] {0, 500, 900}, (y, k) -> 0 * y.setKink(k) + y.thinning(0), x, 500, 333, 252);
        sentence(7, "This is an act.");
        act("setKink(900)", RICH, y -> y.setKink(900));
        act("setKink(200), as it was", RICH, y -> y.setKink(200));
        range(7, "`kink`: 0 to 900", RICH, IceCoreDater::setKink, 0, 900);
        sentence(7, "Returns the previous kink;");
        dueAll("setKink", new int[] {0, 0, 900, 901, 899}, IceCoreDater::setKink, new IceCoreDater(), 300, 0, 0, BAD_VALUE, 900);
        beyond(7, "BAD_VALUE if kink is out of range.", RICH, IceCoreDater::setKink, 0, 900);
    }

    private static void tellThinning() {
        sentence(8, "Sets the told thinning of a layer.");
        IceCoreDater x = yearly(10, 10, 10);
        x.tellThinning(0, 10);
        x.tellThinning(2, 999);
        dueAll("thinning", new int[] {0, 1, 2}, IceCoreDater::thinning, x, 10, 1000, 999);
        sentence(8, "This is an act.");
        act("tellThinning(2, 10)", RICH, y -> y.tellThinning(2, 10));
        act("tellThinning(1, 400), as it was", RICH, y -> y.tellThinning(1, 400));
        layerNumbers(8, RICH, (y, layer) -> y.tellThinning(layer, 10));
        range(8, "`thinning`: 10 to 1000", RICH, (y, t) -> y.tellThinning(0, t), 10, 1000);
        sentence(8, "Returns the previous told thinning;");
        dueAll("tellThinning(1)", new int[] {10, 9, 1000, 1000}, (y, t) -> y.tellThinning(1, t), rich(), 400, BAD_VALUE, 10, 1000);
        beyond(8, "BAD_VALUE if thinning is out of range.", RICH, (y, t) -> y.tellThinning(0, t), 10, 1000);
    }

    private static void correct() {
        sentence(9, "Sets the correction of a layer.");
        IceCoreDater x = yearly(10, 10, 10);
        x.correct(0, 200);
        x.correct(2, 5000);
        dueAll("years", new int[] {0, 1, 2}, IceCoreDater::years, x, 50, 10, 2);
        sentence(9, "This is an act.");
        act("correct(2, 200)", RICH, y -> y.correct(2, 200));
        act("correct(1, 900), as it was", RICH, y -> y.correct(1, 900));
        layerNumbers(9, RICH, (y, layer) -> y.correct(layer, 200));
        range(9, "`correction`: 200 to 5000", RICH, (y, c) -> y.correct(0, c), 200, 5000);
        sentence(9, "Returns the previous correction;");
        dueAll("correct(1)", new int[] {200, 199, 5000, 5000}, (y, c) -> y.correct(1, c), rich(), 900, BAD_VALUE, 200, 5000);
        beyond(9, "BAD_VALUE if correction is out of range.", RICH, (y, c) -> y.correct(0, c), 200, 5000);
    }

    private static void setCloseOff() {
        sentence(10, "Sets the close-off depth.");
        dueAll("delay(0) with close-off depth", new int[] {0, 1, 15000}, (y, d) -> 0 * y.setCloseOff(d) + y.delay(0), yearly(10), 0, 1, 15000);
        sentence(10, "This is an act.");
        act("setCloseOff(0)", RICH, y -> y.setCloseOff(0));
        act("setCloseOff(7000), as it was", RICH, y -> y.setCloseOff(7000));
        range(10, "`depth`: 0 to 15000", RICH, IceCoreDater::setCloseOff, 0, 15000);
        sentence(10, "Returns the previous close-off depth;");
        dueAll("setCloseOff", new int[] {0, 0, 15000, 15001, 1}, IceCoreDater::setCloseOff, rich(), 7000, 0, 0, BAD_VALUE, 15000);
        beyond(10, "BAD_VALUE if depth is out of range.", RICH, IceCoreDater::setCloseOff, 0, 15000);
    }

    // ---- ash beds and counts

    private static void setAsh() {
        sentence(11, "Puts an ash bed at the bottom of a layer, or changes the one that is there.");
        IceCoreDater x = yearly(10, 20);
        due("a new one", x.setAsh(1, 31, 0), 1);
        dueAll("residual", new int[] {0, 1}, IceCoreDater::residual, x, NONE, -1);
        due("fitting()", x.fitting(), 0);
        due("another tolerance", x.setAsh(1, 31, 1), 1);
        due("fitting()", x.fitting(), 1);
        due("another age", x.setAsh(1, 28, 1), 1);
        due("residual(1)", x.residual(1), 2);
        due("fitting()", x.fitting(), 0);
        sentence(11, "This is an act.");
        act("setAsh(2, 0, 0)", RICH, y -> y.setAsh(2, 0, 0));
        act("setAsh(1, 320, 11)", RICH, y -> y.setAsh(1, 320, 11));
        act("setAsh(1, 320, 10), as it was", RICH, y -> y.setAsh(1, 320, 10));
        layerNumbers(11, RICH, (y, layer) -> y.setAsh(layer, 0, 0));
        range(11, "`age`: known age, 0 to 100000000", RICH, (y, age) -> y.setAsh(0, age, 0), 0, 100000000);
        range(11, "`tolerance`: 0 to 10000", RICH, (y, t) -> y.setAsh(0, 0, t), 0, 10000);
        sentence(11, "Returns the number of ash beds then;");
        x = sixteenLayers();
        for (int i = 0; i < 16; i++) {
            due("setAsh(" + (15 - i) + ", 0, 0)", x.setAsh(15 - i, 0, 0), i + 1);
        }
        due("setAsh(7, 1, 1)", x.setAsh(7, 1, 1), 16);
        beyond(11, "BAD_VALUE if age or tolerance is out of range.", RICH, (y, age) -> y.setAsh(0, age, 0), 0, 100000000);
        for (int tolerance : new int[] {-1, 10001, MIN, MAX}) {
            refused("setAsh(0, 0, " + tolerance + ")", RICH, y -> y.setAsh(0, 0, tolerance), BAD_VALUE);
            refused("setAsh(2, 0, " + tolerance + ")", RICH, y -> y.setAsh(2, 0, tolerance), BAD_VALUE);
        }
        refused("setAsh(0, -1, -1)", RICH, y -> y.setAsh(0, -1, -1), BAD_VALUE);
    }

    private static void removeAsh() {
        sentence(12, "Removes the ash bed of a layer.");
        IceCoreDater x = rich();
        x.removeAsh(0);
        dueAll("residual", new int[] {0, 1, 2}, IceCoreDater::residual, x, NONE, 11, NONE);
        due("fitting()", x.fitting(), 0);
        sentence(12, "This is an act.");
        act("removeAsh(0)", RICH, y -> y.removeAsh(0));
        act("removeAsh(1)", RICH, y -> y.removeAsh(1));
        layerNumbers(12, () -> after(RICH, y -> y.setAsh(2, 0, 0)), IceCoreDater::removeAsh);
        sentence(12, "Returns the number of ash beds that are left;");
        x = sixteenLayers();
        for (int i = 0; i < 16; i++) {
            x.setAsh(i, 0, 0);
        }
        for (int i = 0; i < 16; i++) {
            due("removeAsh(" + i + ")", x.removeAsh(i), 15 - i);
        }
        sentence(12, "NOT_POSSIBLE if it has none.");
        due("removeAsh(15), again", x.removeAsh(15), NOT_POSSIBLE);
        refused("removeAsh(2)", RICH, y -> y.removeAsh(2), NOT_POSSIBLE);
        refused("removeAsh(0) without any", () -> layers(1, 60), y -> y.removeAsh(0), NOT_POSSIBLE);
    }

    private static void setCount() {
        sentence(13, "Sets the count of a layer.");
        IceCoreDater x = yearly(10, 20);
        x.setCount(1, 1);
        dueAll("countError", new int[] {0, 1}, IceCoreDater::countError, x, NONE, 19);
        x.setCount(1, 2);
        due("another count", x.countError(1), 18);
        sentence(13, "This is an act.");
        act("setCount(0, 1)", RICH, y -> y.setCount(0, 1));
        act("setCount(2, 401)", RICH, y -> y.setCount(2, 401));
        act("setCount(2, 400), as it was", RICH, y -> y.setCount(2, 400));
        layerNumbers(13, RICH, (y, layer) -> y.setCount(layer, 1));
        range(13, "`years`: 1 to 1000000", RICH, (y, years) -> y.setCount(0, years), 1, 1000000);
        sentence(13, "Returns the years of the layer minus the count;");
        dueAll("setCount(0)", new int[] {1, 9, 10, 11, 1000000}, (y, years) -> y.setCount(0, years), x, 9, 1, 0, -1, -999990);
        x.correct(0, 200);
        x.tellThinning(0, 10);
        due("5000 years", x.setCount(0, 1), 4999);
        beyond(13, "BAD_VALUE if years is out of range.", RICH, (y, years) -> y.setCount(2, years), 1, 1000000);
    }

    // ---- tune

    private static void tuneSegments() {
        sentence(14, "Finds the corrections from the ash beds.");
        IceCoreDater x = threeLayers();
        x.setAsh(0, 120, 5);
        x.setAsh(1, 300, 0);
        x.tune();
        dueAll("correction", new int[] {0, 1, 2}, IceCoreDater::correction, x, 835, 1146, 1000);
        sentence(14, "For each segment, from the surface downward, all of its layers get the same correction:");
        x = yearly(1000, 1000, 1000, 1000, 1000);
        for (int i = 0; i < 5; i++) {
            x.correct(i, 300 + 700 * i);
        }
        x.setAsh(1, 4000, 0);
        x.setAsh(4, 16000, 0);
        due("tune()", x.tune(), 2);
        dueAll("correction", new int[] {0, 1, 2, 3, 4}, IceCoreDater::correction, x, 500, 500, 250, 250, 250);
        x = oldLayers(16);
        x.setAsh(15, 16 * 643500, 0);
        due("one segment of sixteen layers", x.tune(), 1);
        dueAll("correction", new int[] {0, 7, 15}, IceCoreDater::correction, x, 777, 777, 777);
        for (int i = 0; i < 16; i++) {
            x.setAsh(i, (i + 1) * 555555, 0);
        }
        due("sixteen segments of one layer", x.tune(), 16);
        dueAll("correction", new int[] {0, 7, 15}, IceCoreDater::correction, x, 900, 900, 900);
        sentence(14, "The corrections of layers in no segment stay as they are.");
        x = yearly(1000, 1000, 1000);
        x.correct(2, 5000);
        x.correct(1, 200);
        x.setAsh(0, 2000, 0);
        x.tune();
        dueAll("correction", new int[] {0, 1, 2}, IceCoreDater::correction, x, 500, 200, 5000);
        sentence(14, "This is an act.");
        act("tune()", RICH, y -> y.tune());
        act("tune() that changes nothing", () -> after(() -> after(() -> yearly(1), y -> y.setAsh(0, 5, 0)), y -> y.correct(0, 200)),
            y -> y.tune());
        act("tune() that fits nothing", () -> after(() -> yearly(1), y -> y.setAsh(0, 100000000, 0)), y -> y.tune());
    }

    /** Layers of 500000000 / correction years, so that no two corrections are alike. */
    private static IceCoreDater oldLayers(int many) {
        IceCoreDater x = layers(many, 5000);
        x.setFunction(2);
        for (int i = 0; i < many; i++) {
            x.tellThinning(i, 10);
        }
        return x;
    }

    /** The correction that tune() finds for the layers from the surface to the lowest one, as one segment. */
    private static int tuned(IceCoreDater x, int known) {
        x.setAsh(x.layers() - 1, known, 0);
        x.tune();
        return x.correction(x.layers() - 1);
    }

    private static void tuneRange() {
        sentence(14, "the one, from 200 to 5000,");
        int[] known = {100000000, 2512562, 2500001, 2500000, 2487562, 100020, 100000, 99999, 99980, 1, 0};
        dueAll("correction for known years", known, ActBoundaries::tuned, oldLayers(1), 200, 200, 200, 200, 201, 4999, 5000, 5000, 5000, 5000, 5000);
        sentence(14, "with which |(sum of the years of its layers, each rounded by itself) - (known years)| is least;");
        dueAll("correction for known years", new int[] {2493781, 2493780, 100011, 100009, 100008}, ActBoundaries::tuned, oldLayers(1),
            200, 201, 4999, 5000, 5000);
        // By themselves two layers have 6 years up to the correction 1000 and 4 years from 1001 on, never 5.
        dueAll("correction for known years", new int[] {4, 5, 6}, ActBoundaries::tuned, yearly(3, 3), 1001, 751, 751);
    }

    private static void tuneNearest() {
        sentence(14, "the least correction if there are several.");
        int[] known = {0, 1, 2, 3, 4, 5, 6, 100000000};
        dueAll("one layer, 1000 / correction years", known, ActBoundaries::tuned, yearly(1), 1001, 501, 334, 251, 201, 200, 200, 200);
        known = new int[] {0, 1, 2, 3, 4, 5, 6, 7, 8, 9, 10, 11};
        dueAll("two of them", known, ActBoundaries::tuned, yearly(1, 1), 1001, 501, 501, 334, 334, 251, 251, 201, 201, 200, 200, 200);
        due("as near with 5000 and 4999", tuned(oldLayers(1), 100010), 4999);
        due("as near with 4999 and 4998", tuned(oldLayers(1), 100030), 4998);
        IceCoreDater x = yearly();
        x.addLayer(1, 2000);
        due("0 years with all corrections", tuned(x, 0), 200);
        due("0 years with all corrections", tuned(x, 77), 200);
    }

    private static void tuneAnswers() {
        sentence(14, "Returns the number of ash beds that fit then;");
        IceCoreDater x = yearly(1000, 1000);
        x.setAsh(0, 2000, 0);
        x.setAsh(1, 2210, 10);
        due("both fit", x.tune(), 2);
        x.setAsh(1, 2001, 198);
        due("one fits", x.tune(), 1);
        x.setAsh(0, 0, 199);
        x.setAsh(1, 0, 399);
        due("none fits", x.tune(), 0);
        x.setAsh(0, 0, 200);
        x.setAsh(1, 0, 400);
        due("both just fit", x.tune(), 2);
        sentence(14, "NOT_POSSIBLE if there is no ash bed, or the known years of a segment are less than 0.");
        refused("tune() without layers", IceCoreDater::new, y -> y.tune(), NOT_POSSIBLE);
        refused("tune() without a bed", BoundaryCheck::threeLayers, y -> y.tune(), NOT_POSSIBLE);
        refused("tune() without the only bed", () -> after(() -> after(() -> yearly(1), y -> y.setAsh(0, 5, 0)), y -> y.removeAsh(0)),
            y -> y.tune(), NOT_POSSIBLE);
        refused("-1 years", () -> beds(4000, 6000, 5999), y -> y.tune(), NOT_POSSIBLE);
        refused("-1 years between the beds", () -> beds(4000, 3999, 6000), y -> y.tune(), NOT_POSSIBLE);
        refused("0 years below 100000000", () -> beds(100000000, 0, 0), y -> y.tune(), NOT_POSSIBLE);
        due("0 years", isError(beds(4000, 6000, 6000).tune()) ? 1 : 0, 0);
        due("0 years at the surface", isError(beds(0, 0, 0).tune()) ? 1 : 0, 0);
    }

    private static IceCoreDater beds(int... ages) {
        IceCoreDater x = yearly(1000, 1000, 1000);
        for (int i = 0; i < ages.length; i++) {
            x.setAsh(i, ages[i], 0);
        }
        return x;
    }

    // ---- undo

    private static void undo() {
        sentence(15, "Restores the latest recorded state and drops it from the recorded states.");
        IceCoreDater x = rich();
        x.setKink(1);
        x.setKink(2);
        x.undo();
        due("acts() is not restored", x.acts(), 8);
        x.setKink(3);
        x.undo();
        x.undo();
        same("undo() leaves a change", reading(() -> {
            IceCoreDater y = rich();
            y.setKink(1);
            y.setKink(2);
            y.undo();
            y.setKink(3);
            y.undo();
            y.undo();
            return y;
        }, false), reading(RICH, false));
        due("the kink of rich()", x.setKink(0), 200);
        sentence(15, "Returns the number of recorded states that are left;");
        x = new IceCoreDater();
        for (int i = 0; i < 9; i++) {
            x.setKink(i);
        }
        for (int left = 7; left >= 0; left--) {
            due("undo()", x.undo(), left);
        }
        sentence(15, "NONE if no state is recorded.");
        due("undo()", x.undo(), NONE);
        due("undo()", x.undo(), NONE);
        due("nothing is restored", x.setKink(5), 0);
        changesNothing("undo() of a new core", IceCoreDater::new, y -> y.undo());
        changesNothing("undo() after the last state", () -> after(() -> after(IceCoreDater::new, y -> y.setKink(5)), y -> y.undo()), y -> y.undo());
        due("undo() after an error", after(IceCoreDater::new, y -> y.setKink(901)).undo(), NONE);
    }
}
