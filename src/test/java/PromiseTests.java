/**
 * For each promise of the document: ordinary inputs, the edges that it names, and wrong inputs.
 * The answers were worked out by hand from the document.
 */
public final class PromiseTests {
    private static final int NO_SUCH_LAYER = -1000000001;
    private static final int BAD_VALUE = -1000000002;
    private static final int NOT_POSSIBLE = -1000000003;
    private static final int FULL = -1000000004;
    private static final int NONE = -1000000005;

    private static int wrong = 0;
    private static int promise = 0;

    public static void main(String[] args) {
        promises1to5();
        promises6to10();
        promises11to15();
        promises16to19();
        promises20to30();
        promises31to38();
        promises39to41();
        System.out.println(wrong == 0 ? "PromiseTests: all answers are as due" : wrong + " answers are not as due");
        if (wrong != 0) {
            System.exit(1);
        }
    }

    private static void promises1to5() {
        constants();
        newObject();
        addLayer();
        removeLowest();
        divide();
        setBed();
    }

    private static void promises6to10() {
        setFunction();
        setKink();
        tellThinning();
        correct();
        setCloseOff();
    }

    private static void promises11to15() {
        setAsh();
        removeAsh();
        setCount();
        tune();
        tuneTies();
        tuneEveryCorrection();
        undo();
        undoRestoresAllOfTheState();
        undoLeavesTheRest();
    }

    private static void promises16to19() {
        type();
        clearText();
        run();
        runOfEveryMethod();
        runOfMalformedCommands();
        runThatFails();
        failure();
    }

    private static void promises20to30() {
        layersAndDepth();
        thicknessAccumulationCorrection();
        thinning();
        years();
        delay();
        residual();
        countError();
        fitting();
    }

    private static void promises31to38() {
        age();
        gasAge();
        depthOf();
        gasDepthOf();
        lead();
        inversions();
        acts();
        seal();
    }

    private static void promises39to41() {
        bestFunction();
        bestKink();
        neededAccumulation();
    }

    private static void due(String call, long got, long want) {
        if (got != want) {
            wrong++;
            System.out.println("promise " + promise + ": " + call + " answered " + got + ", due is " + want);
        }
    }

    /** Bottoms 2000, 5000 and 9000; years 101, 207 and 430; ages 101, 308 and 738; delays 350, 466 and 700. */
    private static IceCoreDater threeLayers() {
        IceCoreDater x = new IceCoreDater();
        x.addLayer(2000, 200);
        x.addLayer(3000, 150);
        x.addLayer(4000, 100);
        return x;
    }

    private static IceCoreDater sixteenLayers(int thickness) {
        IceCoreDater x = new IceCoreDater();
        for (int i = 0; i < 16; i++) {
            x.addLayer(thickness, 10);
        }
        return x;
    }

    private static void type(IceCoreDater x, String text) {
        for (int i = 0; i < text.length(); i++) {
            x.type(text.charAt(i));
        }
    }

    private static void runs(IceCoreDater x, String text, int executed, int failure) {
        type(x, text);
        due("run() of '" + text + "'", x.run(), executed);
        due("failure() after '" + text + "'", x.failure(), failure);
    }

    private static void constants() {
        promise = 1;
        due("NO_SUCH_LAYER", IceCoreDater.NO_SUCH_LAYER, NO_SUCH_LAYER);
        due("BAD_VALUE", IceCoreDater.BAD_VALUE, BAD_VALUE);
        due("NOT_POSSIBLE", IceCoreDater.NOT_POSSIBLE, NOT_POSSIBLE);
        due("FULL", IceCoreDater.FULL, FULL);
        due("NONE", IceCoreDater.NONE, NONE);
    }

    private static void newObject() {
        promise = 1;
        IceCoreDater x = new IceCoreDater();
        due("layers()", x.layers(), 0);
        due("depth()", x.depth(), 0);
        due("acts()", x.acts(), 0);
        due("undo()", x.undo(), NONE);
        due("failure()", x.failure(), NONE);
        due("clearText()", x.clearText(), 0);
        due("setBed(1000)", x.setBed(1000), 100000);
        due("setFunction(1)", x.setFunction(1), 0);
        due("setKink(1)", x.setKink(1), 300);
        due("setCloseOff(1)", x.setCloseOff(1), 7000);
        due("layers() of another object", new IceCoreDater().layers(), 0);
    }

    private static void addLayer() {
        promise = 2;
        IceCoreDater x = new IceCoreDater();
        due("addLayer(0, 10)", x.addLayer(0, 10), BAD_VALUE);
        due("addLayer(5001, 10)", x.addLayer(5001, 10), BAD_VALUE);
        due("addLayer(1, 9)", x.addLayer(1, 9), BAD_VALUE);
        due("addLayer(1, 2001)", x.addLayer(1, 2001), BAD_VALUE);
        due("addLayer(min, max)", x.addLayer(Integer.MIN_VALUE, Integer.MAX_VALUE), BAD_VALUE);
        due("acts()", x.acts(), 0);
        due("addLayer(5000, 10)", x.addLayer(5000, 10), 0);
        due("addLayer(1, 2000)", x.addLayer(1, 2000), 1);
        due("acts()", x.acts(), 2);
        due("thickness(1)", x.thickness(1), 1);
        due("accumulation(0)", x.accumulation(0), 10);
        due("correction(0)", x.correction(0), 1000);
        x.setBed(6000);
        due("addLayer(1000, 10)", x.addLayer(1000, 10), NOT_POSSIBLE);
        due("addLayer(999, 10)", x.addLayer(999, 10), 2);
        due("addLayer(1, 10)", x.addLayer(1, 10), NOT_POSSIBLE);
        due("addLayer(5001, 10)", x.addLayer(5001, 10), BAD_VALUE);
        IceCoreDater full = sixteenLayers(60);
        due("layers()", full.layers(), 16);
        due("addLayer(1, 10)", full.addLayer(1, 10), FULL);
        due("addLayer(1, 9)", full.addLayer(1, 9), BAD_VALUE);
        full.setBed(1000);
        due("addLayer(41, 10)", full.addLayer(41, 10), NOT_POSSIBLE);
        due("addLayer(40, 10)", full.addLayer(40, 10), FULL);
        due("acts()", full.acts(), 17);
    }

    private static void removeLowest() {
        promise = 3;
        IceCoreDater x = threeLayers();
        x.setAsh(2, 500, 1);
        x.setCount(2, 7);
        x.correct(2, 900);
        x.tellThinning(2, 30);
        due("removeLowest()", x.removeLowest(), 2);
        due("depth()", x.depth(), 5000);
        due("residual(2)", x.residual(2), NO_SUCH_LAYER);
        due("addLayer(10, 20)", x.addLayer(10, 20), 2);
        due("residual(2)", x.residual(2), NONE);
        due("countError(2)", x.countError(2), NONE);
        due("correction(2)", x.correction(2), 1000);
        due("tellThinning(2, 10)", x.tellThinning(2, 10), 1000);
        due("removeLowest()", x.removeLowest(), 2);
        due("removeLowest()", x.removeLowest(), 1);
        due("removeLowest()", x.removeLowest(), 0);
        int acts = x.acts();
        due("removeLowest()", x.removeLowest(), NOT_POSSIBLE);
        due("acts()", x.acts(), acts);
        due("undo()", x.undo(), 7);
        due("layers()", x.layers(), 1);
    }

    private static void divide() {
        promise = 4;
        IceCoreDater x = threeLayers();
        x.correct(1, 900);
        x.tellThinning(1, 400);
        x.setAsh(0, 90, 0);
        x.setAsh(1, 300, 5);
        x.setCount(1, 200);
        x.setCount(2, 400);
        due("divide(3, 0)", x.divide(3, 0), NO_SUCH_LAYER);
        due("divide(-1, 1)", x.divide(-1, 1), NO_SUCH_LAYER);
        due("divide(1, 0)", x.divide(1, 0), BAD_VALUE);
        due("divide(1, 3000)", x.divide(1, 3000), BAD_VALUE);
        due("divide(1, 2999)", x.divide(1, 2999), 4);
        due("thickness(0)", x.thickness(0), 2000);
        due("thickness(1)", x.thickness(1), 2999);
        due("thickness(2)", x.thickness(2), 1);
        due("thickness(3)", x.thickness(3), 4000);
        due("accumulation(1)", x.accumulation(1), 150);
        due("accumulation(2)", x.accumulation(2), 150);
        due("correction(1)", x.correction(1), 900);
        due("correction(2)", x.correction(2), 900);
        due("residual(0)", x.residual(0), 11);
        due("residual(1)", x.residual(1), NONE);
        due("residual(2)", x.residual(2), 31);
        due("countError(1)", x.countError(1), NONE);
        due("countError(2)", x.countError(2), NONE);
        due("countError(3)", x.countError(3), 30);
        due("tellThinning(1, 10)", x.tellThinning(1, 10), 400);
        due("tellThinning(2, 10)", x.tellThinning(2, 10), 400);
        due("tellThinning(3, 10)", x.tellThinning(3, 10), 1000);
        due("divide(2, 1)", x.divide(2, 1), BAD_VALUE);
        due("divide(3, 1)", x.divide(3, 1), 5);
        due("thickness(3)", x.thickness(3), 1);
        due("thickness(4)", x.thickness(4), 3999);
        x = threeLayers();
        x.setAsh(0, 101, 5);
        x.divide(0, 1000);
        due("50 and 50 years, within 5 of 101", x.fitting(), 1);
        IceCoreDater full = sixteenLayers(10);
        due("divide(0, 5)", full.divide(0, 5), FULL);
        due("divide(0, 10)", full.divide(0, 10), BAD_VALUE);
        due("divide(16, 5)", full.divide(16, 5), NO_SUCH_LAYER);
        full.removeLowest();
        due("divide(14, 9)", full.divide(14, 9), 16);
        due("thickness(15)", full.thickness(15), 1);
    }

    private static void setBed() {
        promise = 5;
        IceCoreDater x = threeLayers();
        due("setBed(999)", x.setBed(999), BAD_VALUE);
        due("setBed(200001)", x.setBed(200001), BAD_VALUE);
        due("setBed(8999)", x.setBed(8999), NOT_POSSIBLE);
        due("setBed(1000)", x.setBed(1000), NOT_POSSIBLE);
        due("acts()", x.acts(), 3);
        due("setBed(9000)", x.setBed(9000), 100000);
        due("setBed(200000)", x.setBed(200000), 9000);
        due("thinning(2)", x.thinning(2), 965);
        due("setBed(1000)", new IceCoreDater().setBed(1000), 100000);
    }

    private static void setFunction() {
        promise = 6;
        IceCoreDater x = threeLayers();
        due("setFunction(-1)", x.setFunction(-1), BAD_VALUE);
        due("setFunction(3)", x.setFunction(3), BAD_VALUE);
        due("setFunction(2)", x.setFunction(2), 0);
        due("thinning(2)", x.thinning(2), 1000);
        due("setFunction(1)", x.setFunction(1), 2);
        due("thinning(2)", x.thinning(2), 917);
        due("setFunction(0)", x.setFunction(0), 1);
        due("thinning(2)", x.thinning(2), 930);
        due("acts()", x.acts(), 6);
    }

    private static void setKink() {
        promise = 7;
        IceCoreDater x = threeLayers();
        due("setKink(-1)", x.setKink(-1), BAD_VALUE);
        due("setKink(901)", x.setKink(901), BAD_VALUE);
        due("setKink(900)", x.setKink(900), 300);
        due("thinning(2)", x.thinning(2), 930);
        x.setFunction(1);
        due("thinning(2)", x.thinning(2), 872);
        due("setKink(0)", x.setKink(0), 900);
        due("thinning(2)", x.thinning(2), 930);
        due("acts()", x.acts(), 6);
    }

    private static void tellThinning() {
        promise = 8;
        IceCoreDater x = threeLayers();
        due("tellThinning(3, 9)", x.tellThinning(3, 9), NO_SUCH_LAYER);
        due("tellThinning(-1, 10)", x.tellThinning(-1, 10), NO_SUCH_LAYER);
        due("tellThinning(2, 9)", x.tellThinning(2, 9), BAD_VALUE);
        due("tellThinning(2, 1001)", x.tellThinning(2, 1001), BAD_VALUE);
        due("tellThinning(2, 10)", x.tellThinning(2, 10), 1000);
        due("thinning(2)", x.thinning(2), 930);
        x.setFunction(2);
        due("thinning(2)", x.thinning(2), 10);
        due("thinning(1)", x.thinning(1), 1000);
        due("tellThinning(2, 1000)", x.tellThinning(2, 1000), 10);
        due("acts()", x.acts(), 6);
    }

    private static void correct() {
        promise = 9;
        IceCoreDater x = threeLayers();
        due("correct(3, 199)", x.correct(3, 199), NO_SUCH_LAYER);
        due("correct(-1, 200)", x.correct(-1, 200), NO_SUCH_LAYER);
        due("correct(1, 199)", x.correct(1, 199), BAD_VALUE);
        due("correct(1, 5001)", x.correct(1, 5001), BAD_VALUE);
        due("correct(1, 200)", x.correct(1, 200), 1000);
        due("years(1)", x.years(1), 1036);
        due("delay(1)", x.delay(1), 2333);
        due("correct(1, 5000)", x.correct(1, 5000), 200);
        due("years(1)", x.years(1), 41);
        due("correction(0)", x.correction(0), 1000);
        due("acts()", x.acts(), 5);
    }

    private static void setCloseOff() {
        promise = 10;
        IceCoreDater x = threeLayers();
        due("setCloseOff(-1)", x.setCloseOff(-1), BAD_VALUE);
        due("setCloseOff(15001)", x.setCloseOff(15001), BAD_VALUE);
        due("setCloseOff(15000)", x.setCloseOff(15000), 7000);
        due("delay(1)", x.delay(1), 1000);
        due("setCloseOff(0)", x.setCloseOff(0), 15000);
        due("delay(1)", x.delay(1), 0);
        due("acts()", x.acts(), 5);
    }

    private static void setAsh() {
        promise = 11;
        IceCoreDater x = threeLayers();
        due("setAsh(3, -1, 0)", x.setAsh(3, -1, 0), NO_SUCH_LAYER);
        due("setAsh(-1, 0, 0)", x.setAsh(-1, 0, 0), NO_SUCH_LAYER);
        due("setAsh(0, -1, 0)", x.setAsh(0, -1, 0), BAD_VALUE);
        due("setAsh(0, 100000001, 0)", x.setAsh(0, 100000001, 0), BAD_VALUE);
        due("setAsh(0, 0, -1)", x.setAsh(0, 0, -1), BAD_VALUE);
        due("setAsh(0, 0, 10001)", x.setAsh(0, 0, 10001), BAD_VALUE);
        due("residual(0)", x.residual(0), NONE);
        due("setAsh(0, 0, 0)", x.setAsh(0, 0, 0), 1);
        due("residual(0)", x.residual(0), 101);
        due("setAsh(2, 100000000, 10000)", x.setAsh(2, 100000000, 10000), 2);
        due("residual(2)", x.residual(2), 738 - 100000000);
        due("setAsh(0, 120, 5)", x.setAsh(0, 120, 5), 2);
        due("residual(0)", x.residual(0), -19);
        due("acts()", x.acts(), 6);
    }

    private static void removeAsh() {
        promise = 12;
        IceCoreDater x = threeLayers();
        x.setAsh(0, 0, 0);
        x.setAsh(2, 700, 0);
        due("removeAsh(3)", x.removeAsh(3), NO_SUCH_LAYER);
        due("removeAsh(-1)", x.removeAsh(-1), NO_SUCH_LAYER);
        due("removeAsh(1)", x.removeAsh(1), NOT_POSSIBLE);
        due("acts()", x.acts(), 5);
        due("removeAsh(0)", x.removeAsh(0), 1);
        due("removeAsh(0)", x.removeAsh(0), NOT_POSSIBLE);
        due("residual(2)", x.residual(2), 38);
        due("removeAsh(2)", x.removeAsh(2), 0);
        due("acts()", x.acts(), 7);
    }

    private static void setCount() {
        promise = 13;
        IceCoreDater x = threeLayers();
        due("setCount(3, 0)", x.setCount(3, 0), NO_SUCH_LAYER);
        due("setCount(-1, 1)", x.setCount(-1, 1), NO_SUCH_LAYER);
        due("setCount(1, 0)", x.setCount(1, 0), BAD_VALUE);
        due("setCount(1, 1000001)", x.setCount(1, 1000001), BAD_VALUE);
        due("countError(1)", x.countError(1), NONE);
        due("setCount(1, 1)", x.setCount(1, 1), 206);
        due("countError(1)", x.countError(1), 206);
        due("setCount(1, 1000000)", x.setCount(1, 1000000), 207 - 1000000);
        due("acts()", x.acts(), 5);
    }

    private static void tune() {
        promise = 14;
        IceCoreDater x = threeLayers();
        due("tune()", x.tune(), NOT_POSSIBLE);
        x.setAsh(0, 120, 5);
        x.setAsh(1, 300, 0);
        due("tune()", x.tune(), 2);
        due("correction(0)", x.correction(0), 835);
        due("correction(1)", x.correction(1), 1146);
        due("correction(2)", x.correction(2), 1000);
        due("residual(1)", x.residual(1), 0);
        x.setAsh(0, 301, 10000);
        due("tune()", x.tune(), NOT_POSSIBLE);
        due("correction(0)", x.correction(0), 835);
        due("acts()", x.acts(), 7);
        x.setAsh(0, 300, 0);
        due("tune()", x.tune(), 1);
        due("correction(0)", x.correction(0), 336);
        due("41 years are the least, from 4935 on", x.correction(1), 4935);
        x.removeAsh(0);
        due("tune()", x.tune(), 1);
        due("correction(0)", x.correction(0), 1021);
        due("correction(1)", x.correction(1), 1021);
        x.setAsh(1, 100000000, 0);
        due("tune()", x.tune(), 0);
        due("correction(0)", x.correction(0), 200);
        x.setAsh(1, 0, 61);
        due("tune()", x.tune(), 1);
        due("correction(0)", x.correction(0), 4935);
        due("correction(2)", x.correction(2), 1000);
    }

    /** The years are 2000 / correction at first, and 200000 / correction with the told thinning 10. */
    private static void tuneTies() {
        promise = 14;
        IceCoreDater x = new IceCoreDater();
        x.setFunction(2);
        x.addLayer(2, 10);
        x.setAsh(0, 8, 0);
        x.tune();
        due("8 years from 223 on", x.correction(0), 223);
        x.setAsh(0, 0, 0);
        x.tune();
        due("0 years from 2001 on", x.correction(0), 2001);
        x.tellThinning(0, 10);
        x.setAsh(0, 998, 0);
        x.tune();
        due("1000 is 2 off, 995 is 3 off", x.correction(0), 200);
        x.setAsh(0, 997, 0);
        x.tune();
        due("995 is 2 off, 1000 is 3 off", x.correction(0), 201);
        x.tellThinning(0, 1000);
        x.addLayer(2, 10);
        x.setAsh(1, 997, 0);
        due("tune()", x.tune(), 0);
        due("correction(0)", x.correction(0), 200);
        due("0 years between two beds of one age", x.correction(1), 2001);
        IceCoreDater old = new IceCoreDater();
        old.setFunction(2);
        old.addLayer(5000, 10);
        old.tellThinning(0, 10);
        int[] ages = {100000, 100009, 100010, 100020};
        int[] corrections = {5000, 5000, 4999, 4999};
        for (int i = 0; i < ages.length; i++) {
            old.setAsh(0, ages[i], 0);
            old.tune();
            due("100000 years with 5000, 100020 with 4999, near " + ages[i], old.correction(0), corrections[i]);
        }
        x.removeAsh(0);
        x.setAsh(1, 19, 0);
        due("tune()", x.tune(), 0);
        due("20 and 18 are as near to 19, the lesser correction counts", x.correction(1), 200);
        due("correction(0)", x.correction(0), 200);
    }

    /** A layer of 500000000 / correction years, no two corrections alike. */
    private static IceCoreDater oldLayers(int layers) {
        IceCoreDater x = new IceCoreDater();
        x.setFunction(2);
        for (int i = 0; i < layers; i++) {
            x.addLayer(5000, 10);
            x.tellThinning(i, 10);
        }
        return x;
    }

    private static void tuneEveryCorrection() {
        promise = 14;
        for (int first = 200; first <= 5000; first += 100) {
            IceCoreDater x = oldLayers(1);
            for (int c = first; c < first + 100 && c <= 5000; c++) {
                x.setAsh(0, 500000000 / c, 0);
                due("tune()", x.tune(), 1);
                due("correction(0)", x.correction(0), c);
            }
        }
        IceCoreDater full = oldLayers(16);
        full.setAsh(15, 16 * (500000000 / 777), 0);
        due("tune() of sixteen layers", full.tune(), 1);
        for (int i = 0; i < 16; i++) {
            due("correction(" + i + ")", full.correction(i), 777);
        }
        for (int i = 0; i < 16; i++) {
            full.setAsh(i, (i + 1) * (500000000 / 900), 0);
        }
        due("tune() of sixteen segments", full.tune(), 16);
        for (int i = 0; i < 16; i++) {
            due("correction(" + i + ")", full.correction(i), 900);
        }
    }

    private static void undo() {
        promise = 15;
        IceCoreDater x = new IceCoreDater();
        due("undo()", x.undo(), NONE);
        for (int i = 0; i < 12; i++) {
            x.addLayer(10 + i, 10);
        }
        x.addLayer(0, 0);
        for (int i = 7; i >= 0; i--) {
            due("undo()", x.undo(), i);
            due("layers()", x.layers(), 4 + i);
        }
        due("undo()", x.undo(), NONE);
        due("layers()", x.layers(), 4);
        due("acts()", x.acts(), 12);
        x.addLayer(99, 10);
        due("undo()", x.undo(), 0);
        due("thickness(3)", x.thickness(3), 13);
        due("thickness(4)", x.thickness(4), NO_SUCH_LAYER);
        x.addLayer(50, 10);
        x.addLayer(60, 10);
        due("undo()", x.undo(), 1);
        x.addLayer(70, 10);
        due("undo()", x.undo(), 1);
        due("undo()", x.undo(), 0);
        due("layers()", x.layers(), 4);
    }

    private static IceCoreDater richCore() {
        IceCoreDater x = threeLayers();
        x.setAsh(1, 320, 8);
        x.setCount(2, 400);
        x.tellThinning(1, 500);
        return x;
    }

    private static int act(IceCoreDater x, int which) {
        switch (which) {
            case 0: return x.addLayer(1, 10);
            case 1: return x.removeLowest();
            case 2: return x.divide(1, 10);
            case 3: return x.setBed(9000);
            case 4: return x.setFunction(2);
            case 5: return x.setKink(900);
            case 6: return x.tellThinning(1, 10);
            case 7: return x.correct(2, 200);
            case 8: return x.setCloseOff(0);
            case 9: return x.setAsh(1, 320, 9);
            case 10: return x.removeAsh(1);
            case 11: return x.setCount(2, 401);
            case 12: return x.tune();
            default: type(x, "kink 7;use told;layer 5 50;fix 1 300;ash 0 1 1;bed 10000"); return x.run();
        }
    }

    /** All that can be read of a core; the object is of no use afterwards. */
    private static String reading(IceCoreDater x) {
        StringBuilder all = new StringBuilder();
        all.append(x.layers()).append(' ').append(x.fitting()).append(' ').append(x.seal());
        for (int i = 0; i < 5; i++) {
            all.append(" | ").append(x.thickness(i)).append(' ').append(x.accumulation(i));
            all.append(' ').append(x.correction(i)).append(' ').append(x.thinning(i));
            all.append(' ').append(x.delay(i)).append(' ').append(x.residual(i)).append(' ').append(x.countError(i));
        }
        for (int i = 0; i < 5; i++) {
            all.append(" | ").append(x.tellThinning(i, 77));
        }
        int tolerated = 0;
        for (int age = 300; age < 400; age++) {
            x.correct(0, 200 + age);
            tolerated += x.fitting();
        }
        all.append(" | ").append(tolerated);
        all.append(" | ").append(x.setBed(200000)).append(' ').append(x.setFunction(0));
        all.append(' ').append(x.setKink(0)).append(' ').append(x.setCloseOff(0));
        return all.toString();
    }

    private static void undoRestoresAllOfTheState() {
        promise = 15;
        String before = reading(richCore());
        for (int which = 0; which <= 13; which++) {
            IceCoreDater changed = richCore();
            int answer = act(changed, which);
            due("act " + which + " answers no error", answer <= NO_SUCH_LAYER ? 1 : 0, 0);
            due("acts() after act " + which, changed.acts(), 7);
            boolean same = reading(changed).equals(before);
            // The tolerance of a bed is read only roughly.
            due("act " + which + " changes something", same && which != 9 ? 1 : 0, 0);
            IceCoreDater restored = richCore();
            act(restored, which);
            due("undo() of act " + which, restored.undo(), 6);
            due("acts()", restored.acts(), 7);
            due("undo() of act " + which + " restores all", reading(restored).equals(before) ? 0 : 1, 0);
        }
        IceCoreDater x = threeLayers();
        x.setAsh(0, 106, 5);
        x.setAsh(0, 106, 4);
        due("fitting()", x.fitting(), 0);
        x.undo();
        due("fitting() with the old tolerance", x.fitting(), 1);
    }

    private static void undoLeavesTheRest() {
        promise = 15;
        IceCoreDater x = threeLayers();
        runs(x, "bed 5", 0, BAD_VALUE);
        type(x, "tune");
        due("undo()", x.undo(), 3);
        due("failure()", x.failure(), BAD_VALUE);
        due("acts()", x.acts(), 4);
        due("clearText()", x.clearText(), 4);
        due("undo()", x.undo(), 2);
        due("layers()", x.layers(), 2);
    }

    private static void type() {
        promise = 16;
        IceCoreDater x = new IceCoreDater();
        due("type(31)", x.type(31), BAD_VALUE);
        due("type(127)", x.type(127), BAD_VALUE);
        due("type(65568)", x.type(65536 + 32), BAD_VALUE);
        due("type(-1)", x.type(-1), BAD_VALUE);
        due("type(32)", x.type(32), 1);
        due("type(126)", x.type(126), 2);
        for (int i = 3; i <= 80; i++) {
            due("type(97)", x.type(97), i);
        }
        due("type(97)", x.type(97), FULL);
        due("type(127)", x.type(127), BAD_VALUE);
        due("acts()", x.acts(), 0);
        due("undo()", x.undo(), NONE);
        due("clearText()", x.clearText(), 80);
        due("type(97)", x.type(97), 1);
    }

    private static void clearText() {
        promise = 17;
        IceCoreDater x = new IceCoreDater();
        due("clearText()", x.clearText(), 0);
        type(x, "kink 5;");
        due("clearText()", x.clearText(), 7);
        due("clearText()", x.clearText(), 0);
        runs(x, "kink 6", 1, 0);
        due("setKink(1)", x.setKink(1), 6);
        due("acts()", x.acts(), 2);
    }

    private static void run() {
        promise = 18;
        IceCoreDater x = new IceCoreDater();
        runs(x, "layer 500 90;ash 0 7 1;tune", 3, 0);
        due("correction(0)", x.correction(0), 4644);
        due("acts()", x.acts(), 1);
        due("clearText()", x.clearText(), 0);
        due("undo()", x.undo(), 0);
        due("layers()", x.layers(), 0);
        runs(x, "", 0, 1);
        due("acts()", x.acts(), 2);
        due("undo()", x.undo(), 0);
        IceCoreDater full = new IceCoreDater();
        runs(full, "kink 1;kink 2;kink 3;kink 4;kink 5;kink 6;kink 7;kink 8;kink 9;kink 10;kink   11", 11, 0);
        due("setKink(0)", full.setKink(0), 11);
        due("undo()", full.undo(), 1);
        due("undo()", full.undo(), 0);
        due("setKink(0)", full.setKink(0), 300);
    }

    private static void runOfEveryMethod() {
        promise = 18;
        IceCoreDater x = new IceCoreDater();
        runs(x, "bed 2000; kink 0 ;  close   9;use kinked;layer 10 20;layer 30 40;fix 1 200", 7, 0);
        due("correction(1)", x.correction(1), 200);
        due("correction(0)", x.correction(0), 1000);
        due("accumulation(1)", x.accumulation(1), 40);
        due("thickness(1)", x.thickness(1), 30);
        due("setBed(3000)", x.setBed(3000), 2000);
        due("setKink(1)", x.setKink(1), 0);
        due("setCloseOff(1)", x.setCloseOff(1), 9);
        due("setFunction(2)", x.setFunction(2), 1);
        due("years(0)", x.years(0), 5);
        runs(x, "ash 1 50 8", 1, 0);
        due("42 years are within 8 of 50", x.fitting(), 1);
        runs(x, "count 0 1000000;ash 1 50 7;use linear", 3, 0);
        due("countError(0)", x.countError(0), 5 - 1000000);
        due("residual(1)", x.residual(1), -8);
        due("fitting()", x.fitting(), 0);
        due("setFunction(2)", x.setFunction(2), 0);
        runs(x, "use linear;use told", 2, 0);
        due("setFunction(2)", x.setFunction(2), 2);
        runs(x, "   kink   000000005   ", 1, 0);
        due("setKink(1)", x.setKink(1), 5);
    }

    private static void runOfMalformedCommands() {
        promise = 18;
        String[] malformed = {
            "", " ", ";", ";kink 5", "Layer 1 10", "layer", "layer 1", "layer 1 10 1", "layer 1 1o", "layer 1 -10",
            "layer 1 +10", "layer1 10", "lay er 1 10", "layer 1 1.0", "ash 0 1", "ash 0 1 1 1", "ash 0 1 1 1 1", "count 0",
            "count 0 1 1", "fix 0", "fix 0 900 1", "bed", "bed 1000 1", "bed x", "kink", "kink 1 1", "close", "close 1 1",
            "use", "use 1", "use tol", "use toldx", "use Told", "use told told", "use linear 1", "use tune", "tune 1",
            "tune tune", "tuned", "tun", "undo", "0", "kink 0000000005", "layer 0000000001 10", "kink,5", "kink 5,", "kink 5 ;"
        };
        for (String text : malformed) {
            IceCoreDater x = new IceCoreDater();
            x.addLayer(100, 100);
            x.setAsh(0, 5, 5);
            runs(x, text, text.equals("kink 5 ;") ? 1 : 0, 1);
            due("acts()", x.acts(), 3);
            due("layers()", x.layers(), 1);
            due("correction(0)", x.correction(0), 1000);
            due("undo()", x.undo(), 2);
            due("setKink(0)", x.setKink(0), 300);
        }
    }

    private static void runThatFails() {
        promise = 18;
        IceCoreDater x = new IceCoreDater();
        runs(x, "kink 5;bed 5;kink 6", 1, BAD_VALUE);
        due("setKink(1)", x.setKink(1), 5);
        runs(x, "kink 7;kink;kink 8", 1, 1);
        due("setKink(1)", x.setKink(1), 7);
        runs(x, "fix 0 1", 0, NO_SUCH_LAYER);
        runs(x, "count 0 0", 0, NO_SUCH_LAYER);
        runs(x, "ash 0 0 10001", 0, NO_SUCH_LAYER);
        runs(x, "tune", 0, NOT_POSSIBLE);
        runs(x, "kink 901", 0, BAD_VALUE);
        runs(x, "close 15001", 0, BAD_VALUE);
        runs(x, "layer 999999999 999999999", 0, BAD_VALUE);
        runs(x, "fix 999999999 1000", 0, NO_SUCH_LAYER);
        runs(x, "bed 1000;layer 1000 10;layer 1 10;kink 3", 2, NOT_POSSIBLE);
        due("layers()", x.layers(), 1);
        due("setKink(1)", x.setKink(1), 1);
        runs(sixteenLayers(10), "layer 1 10", 0, FULL);
    }

    private static void failure() {
        promise = 19;
        IceCoreDater x = new IceCoreDater();
        due("failure()", x.failure(), NONE);
        type(x, "kink 5");
        x.clearText();
        due("failure()", x.failure(), NONE);
        runs(x, "kink", 0, 1);
        x.addLayer(0, 0);
        x.tune();
        due("failure()", x.failure(), 1);
        runs(x, "kink 5", 1, 0);
        runs(x, "bed 1", 0, BAD_VALUE);
        due("failure()", x.failure(), BAD_VALUE);
    }

    private static void layersAndDepth() {
        promise = 20;
        IceCoreDater x = new IceCoreDater();
        due("layers()", x.layers(), 0);
        promise = 21;
        due("depth()", x.depth(), 0);
        x = threeLayers();
        due("depth()", x.depth(), 9000);
        x.divide(0, 1);
        due("depth()", x.depth(), 9000);
        x.removeLowest();
        due("depth()", x.depth(), 5000);
        due("depth() of a full core", sixteenLayers(5000).depth(), 80000);
        promise = 20;
        due("layers()", x.layers(), 3);
        due("layers() of a full core", sixteenLayers(5000).layers(), 16);
    }

    private static void thicknessAccumulationCorrection() {
        IceCoreDater x = threeLayers();
        x.correct(2, 777);
        int[] thicknesses = {2000, 3000, 4000};
        int[] accumulations = {200, 150, 100};
        int[] corrections = {1000, 1000, 777};
        for (int i = 0; i < 3; i++) {
            promise = 22;
            due("thickness(" + i + ")", x.thickness(i), thicknesses[i]);
            promise = 23;
            due("accumulation(" + i + ")", x.accumulation(i), accumulations[i]);
            promise = 24;
            due("correction(" + i + ")", x.correction(i), corrections[i]);
        }
        for (int layer : noLayers()) {
            promise = 22;
            due("thickness(" + layer + ")", x.thickness(layer), NO_SUCH_LAYER);
            promise = 23;
            due("accumulation(" + layer + ")", x.accumulation(layer), NO_SUCH_LAYER);
            promise = 24;
            due("correction(" + layer + ")", x.correction(layer), NO_SUCH_LAYER);
        }
    }

    private static int[] noLayers() {
        return new int[] {-1, 3, 15, 16, Integer.MAX_VALUE, Integer.MIN_VALUE};
    }

    private static void thinning() {
        promise = 25;
        IceCoreDater x = threeLayers();
        due("thinning(0)", x.thinning(0), 990);
        due("thinning(1)", x.thinning(1), 965);
        due("thinning(2)", x.thinning(2), 930);
        for (int layer : noLayers()) {
            due("thinning(" + layer + ")", x.thinning(layer), NO_SUCH_LAYER);
        }
        x = new IceCoreDater();
        x.setBed(10000);
        x.addLayer(5000, 100);
        x.addLayer(4900, 100);
        x.addLayer(100, 100);
        due("y is 7500, linear", x.thinning(0), 750);
        due("y is 2550, linear", x.thinning(1), 255);
        due("y is 50: 5 is less than 10", x.thinning(2), 10);
        x.setFunction(1);
        due("y is 7500, h is 3000", x.thinning(0), 705);
        due("y is 2550, h is 3000", x.thinning(1), 127);
        due("y is 50, h is 3000", x.thinning(2), 10);
        x.setKink(900);
        due("y is 7500, h is 9000", x.thinning(0), 568);
        due("y is 2550, h is 9000", x.thinning(1), 65);
        x.setKink(750);
        due("y is 7500, h is 7500", x.thinning(0), 600);
        x.setKink(0);
        due("y is 50, h is 0", x.thinning(2), 10);
        due("y is 2550, h is 0", x.thinning(1), 255);
        x = new IceCoreDater();
        x.setBed(1000);
        x.addLayer(3, 100);
        due("half of 3 is 1", x.thinning(0), 999);
        x.addLayer(4, 100);
        due("3 and half of 4 is 5", x.thinning(1), 995);
        x = new IceCoreDater();
        x.setBed(1000);
        x.setFunction(1);
        x.setKink(900);
        x.addLayer(186, 100);
        due("y is 907, h is 900: 830.9", x.thinning(0), 830);
        x.removeLowest();
        x.addLayer(968, 100);
        due("y is 516, h is 900: 268.9", x.thinning(0), 268);
        x = new IceCoreDater();
        x.setBed(200000);
        x.addLayer(5000, 100);
        x.setFunction(1);
        x.setKink(900);
        due("y is 197500, h is 180000", x.thinning(0), 977);
        IceCoreDater deep = sixteenLayers(5000);
        deep.setFunction(1);
        deep.setKink(900);
        due("y is 42500, h is 90000", deep.thinning(11), 182);
    }

    private static void years() {
        promise = 26;
        IceCoreDater x = threeLayers();
        due("years(0)", x.years(0), 101);
        due("years(1)", x.years(1), 207);
        due("years(2)", x.years(2), 430);
        for (int layer : noLayers()) {
            due("years(" + layer + ")", x.years(layer), NO_SUCH_LAYER);
        }
        x = sixteenLayers(5000);
        due("years(0)", x.years(0), 5128);
        x.setFunction(2);
        due("years(0)", x.years(0), 5000);
        for (int i = 0; i < 16; i++) {
            x.tellThinning(i, 10);
            x.correct(i, 200);
        }
        due("years(15)", x.years(15), 2500000);
        due("age(80000)", x.age(80000), 40000000);
        x = new IceCoreDater();
        x.addLayer(1, 2000);
        x.correct(0, 5000);
        due("years(0)", x.years(0), 0);
        x = new IceCoreDater();
        x.setFunction(2);
        x.addLayer(5000, 13);
        x.correct(0, 377);
        due("10202 * 13 * 377 is just above 50000000", x.years(0), 10201);
    }

    private static void delay() {
        promise = 27;
        IceCoreDater x = threeLayers();
        due("delay(0)", x.delay(0), 350);
        due("delay(1)", x.delay(1), 466);
        due("delay(2)", x.delay(2), 700);
        for (int layer : noLayers()) {
            due("delay(" + layer + ")", x.delay(layer), NO_SUCH_LAYER);
        }
        x.correct(1, 5000);
        due("delay(1)", x.delay(1), 93);
        x.addLayer(1, 10);
        x.correct(3, 200);
        x.setCloseOff(15000);
        due("delay(3)", x.delay(3), 75000);
        x.setCloseOff(0);
        due("delay(3)", x.delay(3), 0);
    }

    private static void residual() {
        promise = 28;
        IceCoreDater x = threeLayers();
        due("residual(1)", x.residual(1), NONE);
        x.setAsh(1, 300, 0);
        due("residual(1)", x.residual(1), 8);
        due("residual(0)", x.residual(0), NONE);
        due("residual(2)", x.residual(2), NONE);
        x.setAsh(1, 320, 0);
        due("residual(1)", x.residual(1), -12);
        x.correct(0, 500);
        due("residual(1)", x.residual(1), 89);
        for (int layer : noLayers()) {
            due("residual(" + layer + ")", x.residual(layer), NO_SUCH_LAYER);
        }
    }

    private static void countError() {
        promise = 29;
        IceCoreDater x = threeLayers();
        due("countError(1)", x.countError(1), NONE);
        x.setCount(1, 200);
        due("countError(1)", x.countError(1), 7);
        due("countError(0)", x.countError(0), NONE);
        x.correct(1, 2000);
        due("countError(1)", x.countError(1), -97);
        for (int layer : noLayers()) {
            due("countError(" + layer + ")", x.countError(layer), NO_SUCH_LAYER);
        }
    }

    private static void fitting() {
        promise = 30;
        IceCoreDater x = threeLayers();
        due("fitting()", x.fitting(), 0);
        int[] ages = {106, 107, 96, 95, 101};
        int[] fits = {1, 0, 1, 0, 1};
        for (int i = 0; i < ages.length; i++) {
            x.setAsh(0, ages[i], 5);
            due("fitting() with the known age " + ages[i], x.fitting(), fits[i]);
        }
        x.setAsh(1, 308, 0);
        x.setAsh(2, 10738, 10000);
        due("fitting()", x.fitting(), 3);
        x.setAsh(1, 309, 0);
        due("fitting()", x.fitting(), 2);
    }

    private static void age() {
        promise = 31;
        IceCoreDater x = new IceCoreDater();
        due("age(0)", x.age(0), NOT_POSSIBLE);
        due("age(1)", x.age(1), BAD_VALUE);
        due("age(-1)", x.age(-1), BAD_VALUE);
        x = threeLayers();
        int[] depths = {0, 19, 20, 1000, 1999, 2000, 2001, 2014, 2015, 5000, 8999, 9000};
        int[] ages = {0, 0, 1, 50, 100, 101, 101, 101, 102, 308, 737, 738};
        for (int i = 0; i < depths.length; i++) {
            due("age(" + depths[i] + ")", x.age(depths[i]), ages[i]);
        }
        due("age(9001)", x.age(9001), BAD_VALUE);
        due("age(-1)", x.age(-1), BAD_VALUE);
        due("age(min)", x.age(Integer.MIN_VALUE), BAD_VALUE);
        due("age(max)", x.age(Integer.MAX_VALUE), BAD_VALUE);
    }

    private static void gasAge() {
        promise = 32;
        IceCoreDater x = new IceCoreDater();
        due("gasAge(0)", x.gasAge(0), NOT_POSSIBLE);
        due("gasAge(1)", x.gasAge(1), BAD_VALUE);
        x = threeLayers();
        due("gasAge(5000)", x.gasAge(5000), 0);
        due("gasAge(9000)", x.gasAge(9000), 38);
        x.setCloseOff(1000);
        int[] depths = {0, 1000, 1009, 1010, 2000, 2001, 5000, 5001, 9000};
        int[] ages = {0, 0, 0, 1, 51, 35, 242, 208, 638};
        for (int i = 0; i < depths.length; i++) {
            due("gasAge(" + depths[i] + ")", x.gasAge(depths[i]), ages[i]);
        }
        due("gasAge(9001)", x.gasAge(9001), BAD_VALUE);
        due("gasAge(-1)", x.gasAge(-1), BAD_VALUE);
    }

    private static void depthOf() {
        promise = 33;
        IceCoreDater x = new IceCoreDater();
        due("depthOf(0)", x.depthOf(0), NONE);
        due("depthOf(-1)", x.depthOf(-1), BAD_VALUE);
        x = threeLayers();
        int[] ages = {0, 1, 101, 102, 308, 309, 738, 739, Integer.MAX_VALUE, -1, Integer.MIN_VALUE};
        int[] depths = {0, 20, 2000, 2015, 5000, 5010, 9000, NONE, NONE, BAD_VALUE, BAD_VALUE};
        for (int i = 0; i < ages.length; i++) {
            due("depthOf(" + ages[i] + ")", x.depthOf(ages[i]), depths[i]);
        }
        x = new IceCoreDater();
        x.addLayer(1, 2000);
        x.addLayer(1, 2000);
        x.addLayer(5000, 10);
        due("depthOf(0)", x.depthOf(0), 0);
        due("depthOf(1)", x.depthOf(1), 3);
        x = new IceCoreDater();
        x.setFunction(2);
        x.addLayer(2, 10);
        x.correct(0, 600);
        due("3 years in 2 centimeters", x.depthOf(1), 1);
        due("3 years in 2 centimeters", x.depthOf(2), 2);
    }

    private static void gasDepthOf() {
        promise = 34;
        IceCoreDater x = new IceCoreDater();
        due("gasDepthOf(0)", x.gasDepthOf(0), NONE);
        due("gasDepthOf(-1)", x.gasDepthOf(-1), BAD_VALUE);
        x = threeLayers();
        x.setCloseOff(1000);
        int[] ages = {0, 1, 51, 52, 242, 243, 638, 639, Integer.MAX_VALUE, -1, Integer.MIN_VALUE};
        int[] depths = {0, 1010, 2000, 2247, 5000, 5326, 9000, NONE, NONE, BAD_VALUE, BAD_VALUE};
        for (int i = 0; i < ages.length; i++) {
            due("gasDepthOf(" + ages[i] + ")", x.gasDepthOf(ages[i]), depths[i]);
        }
        x = new IceCoreDater();
        x.setCloseOff(15000);
        x.addLayer(2000, 200);
        x.addLayer(3000, 2000);
        due("gasAge(2000)", x.gasAge(2000), 0);
        due("gasAge(2001)", x.gasAge(2001), 26);
        due("gasDepthOf(0)", x.gasDepthOf(0), 0);
        due("gasDepthOf(1)", x.gasDepthOf(1), 2001);
        due("gasDepthOf(26)", x.gasDepthOf(26), 2001);
        due("gasDepthOf(27)", x.gasDepthOf(27), 2200);
        due("gasDepthOf(41)", x.gasDepthOf(41), 5000);
        due("gasDepthOf(42)", x.gasDepthOf(42), NONE);
    }

    private static void lead() {
        promise = 35;
        IceCoreDater x = new IceCoreDater();
        due("lead(0, 0)", x.lead(0, 0), NOT_POSSIBLE);
        due("lead(0, 1)", x.lead(0, 1), BAD_VALUE);
        due("lead(1, 0)", x.lead(1, 0), BAD_VALUE);
        x = threeLayers();
        x.setCloseOff(1000);
        due("lead(2000, 9000)", x.lead(2000, 9000), -537);
        due("lead(9000, 2000)", x.lead(9000, 2000), 687);
        due("lead(9000, 0)", x.lead(9000, 0), 738);
        due("lead(9001, 0)", x.lead(9001, 0), BAD_VALUE);
        due("lead(0, 9001)", x.lead(0, 9001), BAD_VALUE);
        due("lead(-1, 0)", x.lead(-1, 0), BAD_VALUE);
        due("lead(0, -1)", x.lead(0, -1), BAD_VALUE);
    }

    private static void inversions() {
        promise = 36;
        IceCoreDater x = new IceCoreDater();
        due("inversions()", x.inversions(), 0);
        x = threeLayers();
        due("gas ages of 0 on both sides", x.inversions(), 0);
        x.setCloseOff(1000);
        due("inversions()", x.inversions(), 2);
        x.correct(1, 5000);
        due("only the lower border is left", x.inversions(), 1);
        x.setCloseOff(0);
        due("no delays", x.inversions(), 0);
        x.undo();
        x.removeLowest();
        due("the lowest layer has no border", x.inversions(), 0);
        x.divide(0, 1000);
        due("equal delays", x.inversions(), 0);
        x = new IceCoreDater();
        x.setFunction(2);
        x.setCloseOff(200);
        x.addLayer(2000, 200);
        x.addLayer(5000, 10);
        x.correct(1, 5000);
        x.tellThinning(1, 10);
        due("gasAge(2000)", x.gasAge(2000), 90);
        due("gasAge(2001)", x.gasAge(2001), 80);
        due("gasAge(2002)", x.gasAge(2002), 100);
        due("1 centimeter below the border counts", x.inversions(), 1);
    }

    private static void acts() {
        promise = 37;
        IceCoreDater x = threeLayers();
        due("acts()", x.acts(), 3);
        x.addLayer(0, 0);
        x.divide(9, 1);
        x.removeAsh(0);
        x.tune();
        x.type('x');
        x.clearText();
        x.bestKink();
        due("acts()", x.acts(), 3);
        x.undo();
        due("acts()", x.acts(), 3);
        runs(x, "kink 1;kink 2", 2, 0);
        due("acts()", x.acts(), 4);
        runs(x, "kink 901", 0, BAD_VALUE);
        due("acts()", x.acts(), 5);
        x.setKink(2);
        due("an act that changes nothing is one", x.acts(), 6);
    }

    private static void seal() {
        promise = 38;
        IceCoreDater x = new IceCoreDater();
        due("seal()", x.seal(), 7);
        x = threeLayers();
        due("315884 is 4 * 65536 + 53740", x.seal(), 53740 - 65536);
        x.removeLowest();
        due("seal()", x.seal(), 10166);
        x.removeLowest();
        due("seal()", x.seal(), 318);
    }

    private static void bestFunction() {
        promise = 39;
        IceCoreDater x = threeLayers();
        due("bestFunction()", x.bestFunction(), NONE);
        int[] ages = {738, 742, 741, 700, 745, 719, 718, 0, 100000000};
        int[] best = {0, 1, 0, 2, 1, 0, 2, 2, 1};
        for (int i = 0; i < ages.length; i++) {
            x.setAsh(2, ages[i], 0);
            due("bestFunction() with the known age " + ages[i], x.bestFunction(), best[i]);
        }
        x.setAsh(1, 350, 0);
        x.setAsh(2, 690, 0);
        due("the sums are 90, 96 and 60", x.bestFunction(), 2);
        due("the function stays", x.setFunction(1), 0);
        due("the sums are 90, 96 and 60", x.bestFunction(), 2);
        x.removeAsh(1);
        x.tellThinning(2, 889);
        x.setAsh(2, 745, 0);
        due("the sums are 7, 0 and 4", x.bestFunction(), 1);
        x.setAsh(2, 738, 0);
        x.setKink(0);
        due("functions 0 and 1 are the same", x.bestFunction(), 0);
        int acts = x.acts();
        x.bestFunction();
        due("acts()", x.acts(), acts);
    }

    private static void bestKink() {
        promise = 40;
        IceCoreDater x = threeLayers();
        due("bestKink()", x.bestKink(), NONE);
        int[] ages = {0, 738, 769, 770, 771, 772, 100000000};
        int[] best = {0, 0, 850, 875, 875, 900, 900};
        for (int i = 0; i < ages.length; i++) {
            x.setAsh(2, ages[i], 0);
            due("bestKink() with the known age " + ages[i], x.bestKink(), best[i]);
        }
        due("the kink stays", x.setKink(7), 300);
        due("the function stays", x.setFunction(2), 0);
        x.setAsh(2, 771, 0);
        due("bestKink() with the function 2", x.bestKink(), 875);
        x = new IceCoreDater();
        x.addLayer(5000, 10);
        x.correct(0, 200);
        x.setAsh(0, 25667, 0);
        due("25641 years with the kink 0, 25667 with 25", x.bestKink(), 25);
    }

    private static void neededAccumulation() {
        promise = 41;
        IceCoreDater x = threeLayers();
        due("neededAccumulation(2)", x.neededAccumulation(2), NONE);
        int[] counts = {430, 431, 432, 433, 434, 1, 1000000, 4301, 4300};
        int[] needed = {100, 100, 99, 99, 99, 1956, 10, 10, 10};
        for (int i = 0; i < counts.length; i++) {
            x.setCount(2, counts[i]);
            due("neededAccumulation(2) for " + counts[i], x.neededAccumulation(2), needed[i]);
        }
        due("neededAccumulation(1)", x.neededAccumulation(1), NONE);
        for (int layer : noLayers()) {
            due("neededAccumulation(" + layer + ")", x.neededAccumulation(layer), NO_SUCH_LAYER);
        }
        x.setCount(2, 430);
        x.correct(2, 2000);
        due("half of it with the double correction", x.neededAccumulation(2), 50);
        x.correct(2, 1000);
        x.setFunction(2);
        x.setCount(2, 400);
        due("with the told thinning", x.neededAccumulation(2), 100);
        due("the accumulation stays", x.accumulation(2), 100);
        x = new IceCoreDater();
        x.setFunction(2);
        x.addLayer(5000, 10);
        x.tellThinning(0, 10);
        x.correct(0, 200);
        x.setCount(0, 12502);
        due("12500 years with 2000, 12506 with 1999", x.neededAccumulation(0), 2000);
        x.setCount(0, 12503);
        due("the lesser one of two as near", x.neededAccumulation(0), 1999);
        for (int first = 25; first <= 2000; first += 200) {
            x = oldLayers(1);
            x.correct(0, 200);
            for (int a = first; a < first + 200 && a <= 2000; a++) {
                x.setCount(0, 25000000 / a);
                due("neededAccumulation(0)", x.neededAccumulation(0), a);
            }
        }
    }
}
