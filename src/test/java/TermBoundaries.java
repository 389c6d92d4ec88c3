/** The boundary cases that "What it is" and "Terms" name. The answers were worked out by hand. */
final class TermBoundaries extends BoundaryCheck {
    private TermBoundaries() {
    }

    static void check() {
        calls();
        quotients();
        products();
        layerNumbering();
        layerRanges();
        layerDepths();
        bed();
        thinning();
        thinningFunctions();
        kinkedThinning();
        years();
        ages();
        gas();
        gasAges();
        ashBeds();
        fitting();
        segments();
        counts();
        text();
        commands();
        words();
        methods();
        numbers();
        malformed();
        recorded();
        eightStates();
        state();
        errorsChangeNothing();
        questionsThatFailChangeNothing();
        firstError();
        none();
        constants();
        wordsWithoutBoundary();
    }

    private static void wordsWithoutBoundary() {
        plain(WHAT_IT_IS, "A dating model for an ice core: layers that are thinned by the ice above them, three thinning"
            + " functions, ages of ice and of enclosed gas, ash beds of known age, corrections of the accumulation that are"
            + " found from them, annual counts, commands as texts, and an undo log.");
        plain(WHAT_IT_IS, "what later calls answer is free.");
        plain(TERMS, "All numbers are integers. Depths are measured in centimeters below the surface, ages in years,"
            + " accumulations in millimeters of ice per year; thinnings and corrections are thousandths.");
        plain(TERMS, "Ahead of the calls `addLayer`, `removeLowest`, `divide`, `setBed`, `setFunction`, `setKink`,"
            + " `tellThinning`, `correct`, `setCloseOff` the interface says: ---- the core.");
        plain(TERMS, "Ahead of the calls `setAsh`, `removeAsh`, `setCount`, `tune`, `undo` the interface says: ---- ash beds"
            + " and counts.");
        plain(TERMS, "Ahead of the calls `type`, `clearText`, `run`, `failure` the interface says: ---- texts.");
        plain(TERMS, "Ahead of the calls `layers`, `depth`, `thickness`, `accumulation`, `correction`, `thinning`, `years`,"
            + " `delay`, `residual`, `countError`, `fitting`, `age`, `gasAge`, `depthOf`, `gasDepthOf`, `lead`, `inversions`,"
            + " `acts`, `seal` the interface says: ---- what there is.");
        plain(TERMS, "Ahead of the calls `bestFunction`, `bestKink`, `neededAccumulation` the interface says: ---- what would"
            + " be; nothing changes.");
        // The headings, which are left when all sentences below them are taken away.
        for (String heading : new String[] {"Layers", "Thinning", "Ages", "Gas", "Ash beds", "Counts", "Texts", "Undo", "Errors"}) {
            plain(TERMS, heading);
        }
    }

    // ---- all terms

    private static void calls() {
        sentence(WHAT_IT_IS, "An object is used for at most 512 calls after it has been made;");
        IceCoreDater x = new IceCoreDater();
        for (int i = 0; i < 509; i++) {
            due("call " + i, x.setKink(i), i == 0 ? 300 : i - 1);
        }
        due("call 510: acts()", x.acts(), 509);
        due("call 511: undo()", x.undo(), 7);
        due("call 512: setKink(0)", x.setKink(0), 507);
    }

    private static void quotients() {
        sentence(TERMS, "All quotients are of numbers that are not negative, they are rounded down,");
        IceCoreDater x = yearly();
        x.addLayer(1, 20);
        x.addLayer(3, 20);
        x.setCloseOff(3);
        due("a layer of half a year", x.years(0), 0);
        due("a layer of one year and a half", x.years(1), 1);
        due("a delay of one year and a half", x.delay(0), 1);
        due("a third of one year", x.age(2), 0);
        due("two thirds of one year", x.age(3), 0);
        due("one year", x.age(4), 1);
        due("1999 of 2000", onBed(2000, 2).thinning(0), 999);
        due("half of 3 centimeters", onBed(1000, 3).thinning(0), 999);
    }

    private static void products() {
        sentence(TERMS, "and all products are computed without overflow.");
        IceCoreDater x = yearly(5000);
        x.tellThinning(0, 10);
        x.correct(0, 200);
        due("50000000000 / (10 * 200 * 10)", x.years(0), 2500000);
        due("2500000 * 4999 / 5000", x.age(4999), 2499500);
        due("depthOf(2499500)", x.depthOf(2499500), 4999);
        due("depthOf(2499501)", x.depthOf(2499501), 5000);
        x.setCloseOff(15000);
        due("150000000 / (10 * 200)", x.delay(0), 75000);
        due("gasDepthOf(2424500)", x.gasDepthOf(2424500), 4999);
        due("gasDepthOf(2424501)", x.gasDepthOf(2424501), 5000);
        x = yearly();
        x.addLayer(5000, 2000);
        x.correct(0, 5000);
        due("50000000000 / (2000 * 5000 * 1000)", x.years(0), 5);
        x.setCount(0, 5);
        due("the needed accumulation is in reach", x.neededAccumulation(0), 1667);
        x = layers(16, 5000);
        x.setBed(200000);
        x.setFunction(1);
        x.setKink(900);
        due("y is 197500, h is 180000", x.thinning(0), 977);
        due("y is 122500, h is 180000", x.thinning(15), 378);
        x.setFunction(2);
        for (int i = 0; i < 16; i++) {
            x.tellThinning(i, 10);
        }
        x.setAsh(15, 40000000, 0);
        due("tune() of 16 * 2500000 years", x.tune(), 1);
        due("correction(15)", x.correction(15), 200);
        due("age(80000)", x.age(80000), 40000000);
        due("lead(80000, 0)", x.lead(80000, 0), 40000000);
    }

    // ---- layers

    private static void layerNumbering() {
        sentence(TERMS, "The core consists of at most 16 layers,");
        IceCoreDater x = new IceCoreDater();
        for (int i = 0; i < 16; i++) {
            due("addLayer(100, 10)", x.addLayer(100, 10), i);
        }
        due("a layer 17", x.addLayer(100, 10), FULL);
        due("a layer 17 by divide(15, 50)", x.divide(15, 50), FULL);
        runs(x, "layer 100 10", 0, FULL);
        due("layers()", x.layers(), 16);
        due("removeLowest()", x.removeLowest(), 15);
        due("divide(14, 50)", x.divide(14, 50), 16);
        due("divide(14, 25)", x.divide(14, 25), FULL);
        due("removeLowest()", x.removeLowest(), 15);
        due("addLayer(100, 10)", x.addLayer(100, 10), 15);
        sentence(TERMS, "numbered from 0 from the surface downward.");
        x = yearly(1, 2, 3);
        dueAll("thickness", new int[] {-1, 0, 1, 2, 3}, IceCoreDater::thickness, x, NO_SUCH_LAYER, 1, 2, 3, NO_SUCH_LAYER);
    }

    private static void layerRanges() {
        sentence(TERMS, "A layer has a thickness (1 to 5000), an accumulation (10 to 2000), a correction (200 to 5000, at first"
            + " 1000) and a told thinning (10 to 1000, at first 1000).");
        IceCoreDater x = new IceCoreDater();
        due("addLayer(0, 10)", x.addLayer(0, 10), BAD_VALUE);
        due("addLayer(1, 10)", x.addLayer(1, 10), 0);
        due("addLayer(5000, 2000)", x.addLayer(5000, 2000), 1);
        due("addLayer(5001, 2000)", x.addLayer(5001, 2000), BAD_VALUE);
        due("addLayer(1, 9)", x.addLayer(1, 9), BAD_VALUE);
        due("addLayer(1, 2001)", x.addLayer(1, 2001), BAD_VALUE);
        dueAll("thickness", new int[] {0, 1}, IceCoreDater::thickness, x, 1, 5000);
        dueAll("accumulation", new int[] {0, 1}, IceCoreDater::accumulation, x, 10, 2000);
        dueAll("correction", new int[] {0, 1}, IceCoreDater::correction, x, 1000, 1000);
        dueAll("correct(0)", new int[] {199, 200, 5000, 5001, 1000}, (y, c) -> y.correct(0, c), x, BAD_VALUE, 1000, 200, BAD_VALUE, 5000);
        dueAll("tellThinning(1)", new int[] {9, 10, 1000, 1001, 11}, (y, t) -> y.tellThinning(1, t), x, BAD_VALUE, 1000, 10, BAD_VALUE, 1000);
        due("tellThinning(0, 10)", x.tellThinning(0, 10), 1000);
        x = yearly(5000);
        x.tellThinning(0, 10);
        x.setAsh(0, 0, 0);
        x.tune();
        due("no correction above 5000 is found", x.correction(0), 5000);
        x.setAsh(0, 100000000, 0);
        x.tune();
        due("no correction below 200 is found", x.correction(0), 200);
    }

    private static void layerDepths() {
        sentence(TERMS, "The top of layer 0 is at the depth 0;");
        due("y is all of B for the first centimeter", onBed(1000, 1).thinning(0), 1000);
        dueAll("age", new int[] {-1, 0, 1, 2}, IceCoreDater::age, yearly(5000), BAD_VALUE, 0, 1, 2);
        sentence(TERMS, "the top of every other layer is the bottom of the layer above it; the bottom of a layer is its top plus its thickness.");
        IceCoreDater x = yearly(1, 5000, 1);
        x.correct(1, 2000);
        due("depth()", x.depth(), 5002);
        dueAll("age", new int[] {0, 1, 2, 3, 5000, 5001, 5002, 5003}, IceCoreDater::age, x, 0, 1, 1, 2, 2500, 2501, 2502, BAD_VALUE);
    }

    private static void bed() {
        sentence(TERMS, "The bed below the ice lies at a depth of 1000 to 200000, at first 100000;");
        dueAll("setBed", new int[] {999, 1000, 200000, 200001, 5000, MIN, MAX}, IceCoreDater::setBed, new IceCoreDater(),
            BAD_VALUE, 100000, 1000, BAD_VALUE, 200000, BAD_VALUE, BAD_VALUE);
        sentence(TERMS, "the bottom of the lowest layer never lies below the bed.");
        IceCoreDater x = onBed(1000, 500);
        due("a bottom at 1001", x.addLayer(501, 10), NOT_POSSIBLE);
        due("a bottom at 1000", x.addLayer(500, 10), 1);
        due("a bottom at 1001", x.addLayer(1, 10), NOT_POSSIBLE);
        runs(x, "layer 1 10", 0, NOT_POSSIBLE);
        due("divide(1, 499)", x.divide(1, 499), 3);
        due("depth()", x.depth(), 1000);
        x = onBed(2000, 1500);
        due("setBed(1499)", x.setBed(1499), NOT_POSSIBLE);
        runs(x, "bed 1499", 0, NOT_POSSIBLE);
        due("setBed(1500)", x.setBed(1500), 2000);
        x.removeLowest();
        due("setBed(1499)", x.setBed(1499), 1500);
        x.undo();
        x.undo();
        due("the layer and the bed are back", x.depth(), 1500);
        due("setBed(1499)", x.setBed(1499), NOT_POSSIBLE);
        due("setBed(1501)", x.setBed(1501), 1500);
    }

    // ---- thinning

    private static void thinning() {
        sentence(TERMS, "Let B be the depth of the bed, z the depth top + thickness / 2 of a layer, and y = B - z.");
        IceCoreDater x = onBed(1000, 1, 2, 3, 994);
        dueAll("y", new int[] {0, 1, 2, 3}, IceCoreDater::thinning, x, 1000, 998, 996, 497);
        x.setBed(2000);
        dueAll("y / 2", new int[] {0, 1, 2, 3}, IceCoreDater::thinning, x, 1000, 999, 998, 748);
        sentence(TERMS, "The thinning of the layer is found with the thinning function of the core, which is 0 at first;");
        x = onBed(1000, 1000);
        x.tellThinning(0, 77);
        due("with the function 0", x.thinning(0), 500);
        due("setFunction(1)", x.setFunction(1), 0);
        due("with the function 1, h is 300", x.thinning(0), 411);
        due("setFunction(2)", x.setFunction(2), 1);
        due("with the function 2", x.thinning(0), 77);
        sentence(TERMS, "if the result is less than 10, the thinning is 10.");
        due("11", onBed(1000, 978, 22).thinning(1), 11);
        due("10", onBed(1000, 980, 20).thinning(1), 10);
        due("9 is less than 10", onBed(1000, 982, 18).thinning(1), 10);
        due("1 is less than 10", onBed(1000, 999, 1).thinning(1), 10);
        due("0 is less than 10", onBed(2000, 1999, 1).thinning(1), 10);
        int[] thicknesses = {150, 144, 142, 1};
        int[] due = {11, 10, 10, 10};
        for (int i = 0; i < 4; i++) {
            x = onBed(1000, 1000 - thicknesses[i], thicknesses[i]);
            x.setFunction(1);
            due("y is " + (thicknesses[i] - thicknesses[i] / 2) + ", h is 300", x.thinning(1), due[i]);
        }
    }

    private static void thinningFunctions() {
        sentence(TERMS, "Function 0 (linear): 1000 * y / B.");
        due("B / B", onBed(1000, 1).thinning(0), 1000);
        due("1999 / 2000", onBed(2000, 2).thinning(0), 999);
        due("1000 / 2000", onBed(2000, 2000).thinning(0), 500);
        sentence(TERMS, "Function 1 (kinked): let h be B * kink / 1000, where the kink is a number of the core from 0 to 900, at first 300.");
        dueAll("setKink", new int[] {-1, 0, 900, 901, 5, MIN, MAX}, IceCoreDater::setKink, new IceCoreDater(),
            BAD_VALUE, 300, 0, BAD_VALUE, 900, BAD_VALUE, BAD_VALUE);
        IceCoreDater x = onBed(1001, 1000);
        x.setFunction(1);
        x.setKink(5);
        due("h is 5.005, rounded down to 5", x.thinning(0), 499);
        due("h is 1800, with 1801 it would be 989", kinked(2000, 900, 22), 990);
        due("h is 900, with 899 it would be 891", kinked(1000, 900, 120), 890);
        sentence(TERMS, "Function 2 (told): the told thinning of the layer.");
        x = onBed(1000, 500, 500);
        x.setFunction(2);
        due("told at first", x.thinning(1), 1000);
        x.tellThinning(1, 10);
        dueAll("thinning", new int[] {0, 1}, IceCoreDater::thinning, x, 1000, 10);
        x.tellThinning(1, 1000);
        due("the greatest one", x.thinning(1), 1000);
    }

    /** One layer, so that y is the depth of the bed minus half of its thickness. */
    private static int kinked(int bed, int kink, int thickness) {
        IceCoreDater x = onBed(bed, thickness);
        x.setFunction(1);
        x.setKink(kink);
        return x.thinning(0);
    }

    private static void kinkedThinning() {
        sentence(TERMS, "If y is at least h, it is 1000 * (2 * y - h) / (2 * B - h);");
        due("y is 532, h is 531; the other one is 357", kinked(1012, 525, 960), 356);
        due("y is 668, h is 667; the other one is 493", kinked(1012, 660, 688), 492);
        due("y is h", kinked(1000, 500, 1000), 333);
        due("y is 500, h is 0", kinked(1000, 0, 1000), 500);
        due("y is 1000, h is 0", kinked(1000, 0, 1), 1000);
        IceCoreDater x = onBed(1000, 999, 1);
        x.setFunction(1);
        x.setKink(0);
        due("y is 1, h is 0", x.thinning(1), 10);
        sentence(TERMS, "otherwise it is 1000 * y * y / (h * (2 * B - h)).");
        due("y is 534, h is 535; the other one is 356", kinked(1014, 528, 960), 357);
        due("y is 670, h is 671; the other one is 492", kinked(1014, 662, 688), 493);
        due("y is 500, h is 900", kinked(1000, 900, 1000), 252);
    }

    // ---- ages and gas

    private static void years() {
        sentence(TERMS, "The years of a layer are 10000000 * thickness / (accumulation * correction * thinning).");
        IceCoreDater x = yearly(1);
        int[] corrections = {200, 500, 501, 999, 1000, 1001, 5000};
        int[] due = {5, 2, 1, 1, 1, 0, 0};
        for (int i = 0; i < corrections.length; i++) {
            x.correct(0, corrections[i]);
            due("years with the correction " + corrections[i], x.years(0), due[i]);
        }
        x = yearly(5000);
        x.correct(0, 200);
        x.tellThinning(0, 10);
        due("the most years", x.years(0), 2500000);
        x.correct(0, 983);
        due("50000000000 is 100 less than 508647 * 98300", x.years(0), 508646);
        x.correct(0, 320);
        due("50000000000 is 1562500 * 32000", x.years(0), 1562500);
    }

    private static void ages() {
        sentence(TERMS, "The age at the top of layer 0 is 0;");
        IceCoreDater x = yearly(5000);
        x.correct(0, 200);
        x.tellThinning(0, 10);
        dueAll("age", new int[] {0, 1}, IceCoreDater::age, x, 0, 500);
        sentence(TERMS, "the age at the bottom of a layer is the age at its top plus its years.");
        x = yearly();
        for (int i = 0; i < 16; i++) {
            x.addLayer(3, 20);
        }
        due("the half years are not saved up", x.age(6), 2);
        due("age(48)", x.age(48), 16);
        sentence(TERMS, "The age at a depth z from the top of a layer up to its bottom is the age at its top plus years * (z - top) / thickness.");
        x = yearly(2, 3);
        x.correct(0, 600);
        due("years(0)", x.years(0), 3);
        dueAll("age", new int[] {0, 1, 2, 3, 4, 5}, IceCoreDater::age, x, 0, 1, 3, 4, 5, 6);
        x.correct(1, 2900);
        due("years(1)", x.years(1), 1);
        dueAll("age", new int[] {2, 3, 4, 5, 6}, IceCoreDater::age, x, 3, 3, 3, 4, BAD_VALUE);
        sentence(TERMS, "(At the border of two layers, this is the same for both.)");
        x = yearly(1000, 1000);
        x.correct(1, 500);
        dueAll("age", new int[] {999, 1000, 1001, 1002}, IceCoreDater::age, x, 999, 1000, 1002, 1004);
    }

    private static void gas() {
        sentence(TERMS, "Gas is enclosed at the close-off depth of the core, 0 to 15000, at first 7000.");
        IceCoreDater x = yearly(1);
        due("delay(0) at first", x.delay(0), 7000);
        dueAll("setCloseOff", new int[] {-1, 0, 15000, 15001, 9, MIN, MAX}, IceCoreDater::setCloseOff, x,
            BAD_VALUE, 7000, 0, BAD_VALUE, 15000, BAD_VALUE, BAD_VALUE);
        x.setCloseOff(0);
        due("delay(0) with 0", x.delay(0), 0);
        x.setCloseOff(15000);
        due("delay(0) with 15000", x.delay(0), 15000);
        sentence(TERMS, "The delay of a layer is 10000 * (close-off depth) / (accumulation * correction).");
        x.setCloseOff(1);
        int[] corrections = {200, 500, 501, 1000, 1001, 5000};
        int[] due = {5, 2, 1, 1, 0, 0};
        for (int i = 0; i < corrections.length; i++) {
            x.correct(0, corrections[i]);
            due("delay with the correction " + corrections[i], x.delay(0), due[i]);
        }
    }

    private static void gasAges() {
        sentence(TERMS, "The gas age at a depth z is the age at z minus the delay of the layer in which z lies, or 0 if this is less than 0;");
        IceCoreDater x = yearly(5000, 5000);
        dueAll("gasAge", new int[] {0, 6999, 7000, 7001, 10000}, IceCoreDater::gasAge, x, 0, 0, 0, 1, 3000);
        x.setCloseOff(0);
        dueAll("gasAge", new int[] {0, 1, 10000}, IceCoreDater::gasAge, x, 0, 1, 10000);
        sentence(TERMS, "at the border of two layers, the upper one counts.");
        x.setCloseOff(500);
        x.correct(1, 2000);
        dueAll("gasAge", new int[] {4999, 5000, 5001, 5002}, IceCoreDater::gasAge, x, 4499, 4500, 4750, 4751);
        x.removeLowest();
        due("there is no lower one", x.gasAge(5000), 4500);
    }

    // ---- ash beds and counts

    private static void ashBeds() {
        sentence(TERMS, "A layer can have an ash bed at its bottom.");
        IceCoreDater x = yearly(10, 20);
        due("setAsh(0, 0, 0)", x.setAsh(0, 0, 0), 1);
        dueAll("residual", new int[] {0, 1}, IceCoreDater::residual, x, 10, NONE);
        due("setAsh(1, 0, 0)", x.setAsh(1, 0, 0), 2);
        dueAll("residual", new int[] {0, 1}, IceCoreDater::residual, x, 10, 30);
        due("a layer has no second one", x.setAsh(1, 7, 0), 2);
        sentence(TERMS, "An ash bed has a known age (0 to 100000000) and a tolerance (0 to 10000).");
        dueAll("setAsh(0, age, 0)", new int[] {-1, 0, 100000000, 100000001}, (y, age) -> y.setAsh(0, age, 0), x,
            BAD_VALUE, 2, 2, BAD_VALUE);
        due("residual(0)", x.residual(0), 10 - 100000000);
        dueAll("setAsh(0, 0, tolerance)", new int[] {-1, 0, 10000, 10001}, (y, t) -> y.setAsh(0, 0, t), x, BAD_VALUE, 2, 2, BAD_VALUE);
        sentence(TERMS, "Its residual is the age at the bottom of the layer minus the known age;");
        dueAll("known age", new int[] {29, 30, 31}, (y, age) -> y.setAsh(1, age, 0) - 2 + y.residual(1), x, 1, 0, -1);
    }

    private static void fitting() {
        sentence(TERMS, "it fits if the residual is not less than the negative tolerance and not greater than the tolerance.");
        IceCoreDater x = yearly(100);
        LayerCall fits = (y, age) -> y.setAsh(0, age, 5) - 1 + y.fitting();
        dueAll("tolerance 5, known age", new int[] {94, 95, 100, 105, 106}, fits, x, 0, 1, 1, 1, 0);
        fits = (y, age) -> y.setAsh(0, age, 0) - 1 + y.fitting();
        dueAll("tolerance 0, known age", new int[] {99, 100, 101}, fits, x, 0, 1, 0);
        fits = (y, age) -> y.setAsh(0, age, 10000) - 1 + y.fitting();
        dueAll("tolerance 10000, known age", new int[] {0, 10100, 10101}, fits, x, 1, 1, 0);
        x.correct(0, 200);
        x.tellThinning(0, 49);
        due("years(0)", x.years(0), 10204);
        dueAll("tolerance 10000, known age", new int[] {203, 204, 20204, 20205}, fits, x, 0, 1, 1, 0);
    }

    private static void segments() {
        sentence(TERMS, "A segment consists of the layers below an ash bed (or from the surface) down to the next ash bed and the layer with that.");
        // A layer has 1000000 / correction years.
        IceCoreDater x = yearly(1000, 1000, 1000, 1000);
        x.setAsh(1, 4000, 0);
        x.setAsh(2, 4250, 0);
        due("tune()", x.tune(), 2);
        dueAll("correction", new int[] {0, 1, 2, 3}, IceCoreDater::correction, x, 500, 500, 3985, 1000);
        x = yearly(1000, 1000);
        x.setAsh(0, 2000, 0);
        x.setAsh(1, 6000, 0);
        due("tune() of a segment at the surface and one at the end", x.tune(), 2);
        dueAll("correction", new int[] {0, 1}, IceCoreDater::correction, x, 500, 250);
        sentence(TERMS, "Its known years are the known age of its ash bed minus the known age of the ash bed above it (or minus 0).");
        x.setAsh(1, 2000, 0);
        due("tune() with 0 known years below the first bed", x.tune(), 1);
        dueAll("correction", new int[] {0, 1}, IceCoreDater::correction, x, 500, 4976);
        x.setAsh(0, 0, 0);
        due("tune() with 0 known years at the surface", x.tune(), 0);
        dueAll("correction", new int[] {0, 1}, IceCoreDater::correction, x, 4976, 500);
        x.setAsh(0, 2001, 0);
        due("tune() with -1 known years", x.tune(), NOT_POSSIBLE);
        sentence(TERMS, "The layers below the lowest ash bed are in no segment.");
        x = yearly(1000, 1000, 1000);
        x.correct(1, 777);
        x.correct(2, 778);
        x.setAsh(0, 2000, 0);
        due("tune()", x.tune(), 1);
        dueAll("correction", new int[] {0, 1, 2}, IceCoreDater::correction, x, 500, 777, 778);
    }

    private static void counts() {
        sentence(TERMS, "A layer can have a count of annual layers (1 to 1000000).");
        IceCoreDater x = yearly(10, 10);
        due("countError(0)", x.countError(0), NONE);
        dueAll("setCount(0)", new int[] {0, 1, 1000000, 1000001, MIN, MAX}, (y, years) -> y.setCount(0, years), x,
            BAD_VALUE, 9, 10 - 1000000, BAD_VALUE, BAD_VALUE, BAD_VALUE);
        dueAll("countError", new int[] {0, 1}, IceCoreDater::countError, x, 10 - 1000000, NONE);
    }

    // ---- texts

    private static void text() {
        sentence(TERMS, "There is a text of at most 80 characters, at first empty.");
        IceCoreDater x = new IceCoreDater();
        due("clearText() at first", x.clearText(), 0);
        for (int i = 1; i <= 80; i++) {
            due("type(59)", x.type(59), i);
        }
        due("character 81", x.type(59), FULL);
        due("clearText()", x.clearText(), 80);
        String eighty = "kink 1;kink 2;kink 3;kink 4;kink 5;kink 6;kink 7;kink 8;kink 9;kink 10;kink  123";
        due("its characters", eighty.length(), 80);
        runs(x, eighty, 11, 0);
        due("the last character counts", x.setKink(0), 123);
        runs(x, eighty + "4", 11, 0);
        due("character 81 was refused", x.setKink(0), 123);
    }

    private static void commands() {
        sentence(TERMS, "It is divided into commands by \";\";");
        IceCoreDater x = new IceCoreDater();
        runs(x, "kink 1;kink 2;kink 3", 3, 0);
        runs(x, "kink 1;;kink 2", 1, 1);
        due("the kink", x.setKink(0), 1);
        runs(x, "kink 1,kink 2", 0, 1);
        sentence(TERMS, "a text without \";\" is one command, also an empty one;");
        runs(x, "kink 4", 1, 0);
        runs(x, "", 0, 1);
        runs(x, "kink", 0, 1);
        sentence(TERMS, "so is what stands behind the last \";\".");
        runs(x, "kink 5;", 1, 1);
        runs(x, "kink 5; ", 1, 1);
        runs(x, "kink 5;kink 6", 2, 0);
        due("the kink", x.setKink(0), 6);
        runs(x, ";", 0, 1);
        runs(x, ";kink 7", 0, 1);
        due("the kink", x.setKink(0), 0);
    }

    private static void words() {
        sentence(TERMS, "A command consists of words separated by one or more blanks;");
        IceCoreDater x = new IceCoreDater();
        runs(x, "kink 1", 1, 0);
        runs(x, "kink                2;layer   5     60", 2, 0);
        due("the kink", x.setKink(0), 2);
        due("accumulation(0)", x.accumulation(0), 60);
        runs(x, "kink1", 0, 1);
        runs(x, "usetold", 0, 1);
        runs(x, "ki nk 1", 0, 1);
        runs(x, "kink 1 2", 0, 1);
        sentence(TERMS, "blanks before the first word and after the last one are allowed.");
        runs(x, " kink 3", 1, 0);
        runs(x, "kink 4 ", 1, 0);
        runs(x, "     kink 5     ;    use    told      ", 2, 0);
        due("the kink", x.setKink(0), 5);
        due("the function", x.setFunction(0), 2);
        runs(x, "   ", 0, 1);
    }

    private static void methods() {
        sentence(TERMS, "The first word tells the method: \"layer\" (addLayer, 2 numbers), \"ash\" (setAsh, 3 numbers), \"count\""
            + " (setCount, 2 numbers), \"fix\" (correct, 2 numbers), \"bed\" (setBed, 1 number), \"kink\" (setKink, 1 number),"
            + " \"close\" (setCloseOff, 1 number), \"use\" and one of the words \"linear\", \"kinked\" and \"told\" (setFunction"
            + " with 0, 1 or 2), \"tune\" (tune, no number).");
        IceCoreDater x = yearly();
        runs(x, "layer 3000 10;layer 20 40;count 0 7;fix 1 200;ash 0 6000 8;ash 1 7000 9", 6, 0);
        dueAll("thickness", new int[] {0, 1}, IceCoreDater::thickness, x, 3000, 20);
        dueAll("accumulation", new int[] {0, 1}, IceCoreDater::accumulation, x, 10, 40);
        dueAll("correction", new int[] {0, 1}, IceCoreDater::correction, x, 1000, 200);
        dueAll("residual", new int[] {0, 1}, IceCoreDater::residual, x, -3000, 3025 - 7000);
        dueAll("countError", new int[] {0, 1}, IceCoreDater::countError, x, 2993, NONE);
        runs(x, "tune", 1, 0);
        due("correction(0)", x.correction(0), 500);
        runs(x, "bed 4000;kink 11;close 12;use linear", 4, 0);
        due("the bed", x.setBed(100000), 4000);
        due("the kink", x.setKink(0), 11);
        due("the close-off depth", x.setCloseOff(0), 12);
        due("the function", x.setFunction(2), 0);
        runs(x, "use kinked", 1, 0);
        due("the function", x.setFunction(0), 1);
        runs(x, "use told", 1, 0);
        due("the function", x.setFunction(0), 2);
        x = yearly(100);
        runs(x, "ash 0 108 8", 1, 0);
        due("the tolerance is the third number", x.fitting(), 1);
        runs(x, "ash 0 108 7", 1, 0);
        due("the tolerance is the third number", x.fitting(), 0);
    }

    private static void numbers() {
        sentence(TERMS, "A number is a word of 1 to 9 digits.");
        IceCoreDater x = new IceCoreDater();
        runs(x, "kink 7", 1, 0);
        runs(x, "kink 000000008", 1, 0);
        runs(x, "kink 0000000009", 0, 1);
        runs(x, "kink " + "0".repeat(74) + "9", 0, 1);
        due("the kink", x.setKink(0), 8);
        runs(x, "kink 000000000", 1, 0);
        runs(x, "kink 999999999", 0, BAD_VALUE);
        runs(x, "kink 1000000000", 0, 1);
        runs(x, "kink 4294967296", 0, 1);
        runs(x, "layer 1234 567;layer 890 98", 2, 0);
        dueAll("thickness", new int[] {0, 1}, IceCoreDater::thickness, x, 1234, 890);
        for (String word : new String[] {"/", ":", "-1", "+1", "1.", "1e1", "x", "0x1", "1x", "1/", ":1", "~"}) {
            runs(x, "kink " + word, 0, 1);
        }
        due("the kink", x.setKink(0), 0);
    }

    private static void malformed() {
        sentence(TERMS, "A command is malformed if it has no word, an unknown first word, a wrong number of words, or another"
            + " word where a number or one of the three words must be.");
        String[] noWord = {"", " ", "          "};
        String[] unknown = {"Kink 5", "KINK 5", "kin 5", "kinks 5", "undo", "divide 0 5", "setKink 5", "5", "linear", "told",
            "thin 0 5", "tunes", "tun", "layers 5 50", "laye 5 50", "as 0 1 1", "counts 0 1", "fi 0 900", "beds 2000", "closed 5",
            "uses told", "kink\"5", "' kink 5"};
        String[] wrongNumber = {"layer", "layer 5", "layer 5 50 1", "ash", "ash 0", "ash 0 1", "ash 0 1 1 1", "ash 0 1 1 1 1 1",
            "count", "count 0", "count 0 1 1", "fix", "fix 0", "fix 0 900 1", "bed", "bed 2000 1", "kink", "kink 5 1", "close",
            "close 5 1", "use", "use told told", "use told 1", "tune 0", "tune tune", "tune 1 1"};
        String[] wrongWord = {"layer x 50", "layer 5 x", "ash x 1 1", "ash 0 x 1", "ash 0 1 x", "count x 1", "count 0 x", "fix x 900",
            "fix 0 x", "bed x", "kink x", "close x", "use 0", "use x", "use Told", "use tol", "use tolds", "use linea", "use kinke",
            "use linears", "use kinkeds", "use tune", "kink told", "layer told 50"};
        for (String[] commands : new String[][] {noWord, unknown, wrongNumber, wrongWord}) {
            for (String command : commands) {
                malformedCommand(command);
            }
        }
        runs(new IceCoreDater(), "fix 0 x", 0, 1);
        runs(new IceCoreDater(), "fix 0 1", 0, NO_SUCH_LAYER);
    }

    private static void malformedCommand(String command) {
        IceCoreDater x = yearly(100);
        x.setAsh(0, 200, 0);
        runs(x, "kink 7;" + command + ";kink 8", 1, 1);
        due("the kink", x.setKink(300), 7);
        due("layers()", x.layers(), 1);
        due("correction(0)", x.correction(0), 1000);
        due("residual(0)", x.residual(0), -100);
        due("countError(0)", x.countError(0), NONE);
        due("the function", x.setFunction(2), 2);
    }

    // ---- undo

    /** Every method that is called an act, on the core of rich(). */
    private static final Call[] ACTS = {
        x -> x.addLayer(1, 10), x -> x.removeLowest(), x -> x.divide(1, 10), x -> x.setBed(9000), x -> x.setFunction(2),
        x -> x.setKink(900), x -> x.tellThinning(1, 10), x -> x.correct(2, 200), x -> x.setCloseOff(0), x -> x.setAsh(1, 320, 11),
        x -> x.removeAsh(1), x -> x.setCount(2, 401), x -> x.tune(), x -> x.run()
    };

    private static void recorded() {
        sentence(TERMS, "A method that is called an act records the state before it, unless it returns an error.");
        for (int i = 0; i < ACTS.length; i++) {
            act("act " + i, BoundaryCheck::rich, ACTS[i]);
        }
        Call[] errors = {
            x -> x.addLayer(0, 10), x -> x.addLayer(1, 9), x -> x.divide(3, 1), x -> x.divide(1, 0), x -> x.setBed(8999),
            x -> x.setBed(999), x -> x.setFunction(3), x -> x.setKink(901), x -> x.tellThinning(3, 10), x -> x.tellThinning(1, 9),
            x -> x.correct(3, 200), x -> x.correct(2, 199), x -> x.setCloseOff(15001), x -> x.setAsh(3, 0, 0), x -> x.setAsh(1, -1, 0),
            x -> x.removeAsh(3), x -> x.removeAsh(2), x -> x.setCount(3, 1), x -> x.setCount(2, 0)
        };
        for (int i = 0; i < errors.length; i++) {
            due("error " + i, isError(errors[i].on(rich())) ? 1 : 0, 1);
            due("states after error " + i, recordedStates(after(BoundaryCheck::rich, errors[i])), 6);
        }
        Call[] others = {
            x -> x.type(65), x -> x.clearText(), x -> x.failure(), x -> x.layers(), x -> x.depth(), x -> x.age(0), x -> x.seal(),
            x -> x.bestFunction(), x -> x.bestKink(), x -> x.neededAccumulation(2), x -> x.inversions(), x -> x.acts()
        };
        for (int i = 0; i < others.length; i++) {
            due("states after method " + i + " that is no act", recordedStates(after(BoundaryCheck::rich, others[i])), 6);
        }
    }

    private static IceCoreDater kinks(int acts) {
        IceCoreDater x = new IceCoreDater();
        for (int i = 1; i <= acts; i++) {
            x.setKink(i);
        }
        return x;
    }

    private static void eightStates() {
        sentence(TERMS, "At most 8 states are recorded;");
        int[] acts = {0, 1, 7, 8, 9, 10, 16, 17, 18, 19, 100};
        int[] states = {0, 1, 7, 8, 8, 8, 8, 8, 8, 8, 8};
        for (int i = 0; i < acts.length; i++) {
            due("states after " + acts[i] + " acts", recordedStates(kinks(acts[i])), states[i]);
        }
        sentence(TERMS, "when one more is recorded, the oldest one is dropped.");
        for (int many : new int[] {8, 9, 10, 17, 26}) {
            IceCoreDater x = kinks(many);
            for (int left = 7; left >= 0; left--) {
                due("undo()", x.undo(), left);
            }
            due("undo()", x.undo(), NONE);
            due("the kink before the last 8 of " + many + " acts", x.setKink(0), many == 8 ? 300 : many - 8);
        }
        IceCoreDater x = kinks(12);
        x.undo();
        x.undo();
        x.undo();
        for (int i = 101; i <= 104; i++) {
            x.setKink(i);
        }
        int[] kinks = {103, 102, 101, 9, 8, 7, 6, 5};
        for (int i = 0; i < 8; i++) {
            due("undo()", x.undo(), 7 - i);
            int kink = kinks[i];
            due("the kink after undo() " + i, x.setKink(0), kink);
            x.undo();
        }
        due("undo()", x.undo(), NONE);
    }

    private static void state() {
        sentence(TERMS, "The state consists of everything but the text, the result of failure(), the number of acts and the recorded states.");
        for (int i = 0; i < ACTS.length; i++) {
            Call act = ACTS[i];
            IceCoreDater x = after(BoundaryCheck::rich, act);
            int text = x.clearText();
            int failure = x.failure();
            x = after(BoundaryCheck::rich, act);
            due("undo() of act " + i, x.undo(), 6);
            due("the text after undo() of act " + i, x.clearText(), text);
            due("failure() after undo() of act " + i, x.failure(), failure);
            due("acts() after undo() of act " + i, x.acts(), 7);
            due("the states below act " + i, recordedStates(x), 6);
        }
        IceCoreDater x = new IceCoreDater();
        x.setKink(1);
        typed(x, "kink 2;bed 1");
        x.undo();
        due("failure() is still that of no run()", x.failure(), NONE);
        due("the text stays", x.run(), 1);
        due("failure()", x.failure(), BAD_VALUE);
        x.undo();
        due("failure() stays", x.failure(), BAD_VALUE);
        due("the text is not typed again", x.clearText(), 0);
        due("acts()", x.acts(), 2);
        due("the kink", x.setKink(0), 300);
    }

    // ---- errors

    private static IceCoreDater fullText() {
        return typed(rich(), "z".repeat(80));
    }

    private static IceCoreDater richAndFull() {
        IceCoreDater x = rich();
        x.clearText();
        runs(x, "layer 1 10;layer 1 10;layer 1 10;layer 1 10;layer 1 10;layer 1 10", 6, 0);
        runs(x, "layer 1 10;layer 1 10;layer 1 10;layer 1 10;layer 1 10;layer 1 10;layer 1 10", 7, 0);
        return typed(x, "close 77");
    }

    private static void errorsChangeNothing() {
        sentence(TERMS, "A method that returns NO_SUCH_LAYER, BAD_VALUE, NOT_POSSIBLE or FULL changes nothing.");
        Scene rich = BoundaryCheck::rich;
        refused("addLayer(5001, 10)", rich, x -> x.addLayer(5001, 10), BAD_VALUE);
        refused("addLayer(1, 2001)", rich, x -> x.addLayer(1, 2001), BAD_VALUE);
        refused("addLayer(1, 10) on the bed", () -> onBed(1000, 1000), x -> x.addLayer(1, 10), NOT_POSSIBLE);
        refused("addLayer(1, 10)", TermBoundaries::richAndFull, x -> x.addLayer(1, 10), FULL);
        refused("removeLowest()", () -> after(IceCoreDater::new, x -> x.setKink(7)), x -> x.removeLowest(), NOT_POSSIBLE);
        refused("divide(3, 1)", rich, x -> x.divide(3, 1), NO_SUCH_LAYER);
        refused("divide(1, 3000)", rich, x -> x.divide(1, 3000), BAD_VALUE);
        refused("divide(1, 1)", TermBoundaries::richAndFull, x -> x.divide(1, 1), FULL);
        refused("setBed(200001)", rich, x -> x.setBed(200001), BAD_VALUE);
        refused("setBed(8999)", rich, x -> x.setBed(8999), NOT_POSSIBLE);
        refused("setFunction(3)", rich, x -> x.setFunction(3), BAD_VALUE);
        refused("setKink(901)", rich, x -> x.setKink(901), BAD_VALUE);
        refused("tellThinning(3, 10)", rich, x -> x.tellThinning(3, 10), NO_SUCH_LAYER);
        refused("tellThinning(1, 1001)", rich, x -> x.tellThinning(1, 1001), BAD_VALUE);
        refused("correct(3, 200)", rich, x -> x.correct(3, 200), NO_SUCH_LAYER);
        refused("correct(1, 5001)", rich, x -> x.correct(1, 5001), BAD_VALUE);
        refused("setCloseOff(15001)", rich, x -> x.setCloseOff(15001), BAD_VALUE);
        refused("setAsh(3, 0, 0)", rich, x -> x.setAsh(3, 0, 0), NO_SUCH_LAYER);
        refused("setAsh(0, 100000001, 0)", rich, x -> x.setAsh(0, 100000001, 0), BAD_VALUE);
        refused("setAsh(0, 0, 10001)", rich, x -> x.setAsh(0, 0, 10001), BAD_VALUE);
        refused("removeAsh(3)", rich, x -> x.removeAsh(3), NO_SUCH_LAYER);
        refused("removeAsh(2)", rich, x -> x.removeAsh(2), NOT_POSSIBLE);
        refused("setCount(3, 1)", rich, x -> x.setCount(3, 1), NO_SUCH_LAYER);
        refused("setCount(2, 1000001)", rich, x -> x.setCount(2, 1000001), BAD_VALUE);
        refused("tune() without a bed", () -> typed(threeLayers(), "tune"), x -> x.tune(), NOT_POSSIBLE);
        refused("tune() of a last segment with -1 years", () -> after(rich, x -> x.setAsh(2, 319, 0)), x -> x.tune(), NOT_POSSIBLE);
        refused("type(127)", rich, x -> x.type(127), BAD_VALUE);
        refused("type(65)", TermBoundaries::fullText, x -> x.type(65), FULL);
    }

    private static void questionsThatFailChangeNothing() {
        Scene rich = BoundaryCheck::rich;
        LayerCall[] ofLayer = {
            IceCoreDater::thickness, IceCoreDater::accumulation, IceCoreDater::correction, IceCoreDater::thinning, IceCoreDater::years,
            IceCoreDater::delay, IceCoreDater::residual, IceCoreDater::countError, IceCoreDater::neededAccumulation
        };
        for (int i = 0; i < ofLayer.length; i++) {
            LayerCall question = ofLayer[i];
            refused("question " + i, rich, x -> question.on(x, 3), NO_SUCH_LAYER);
        }
        refused("age(9001)", rich, x -> x.age(9001), BAD_VALUE);
        refused("gasAge(9001)", rich, x -> x.gasAge(9001), BAD_VALUE);
        refused("lead(0, 9001)", rich, x -> x.lead(0, 9001), BAD_VALUE);
        refused("depthOf(-1)", rich, x -> x.depthOf(-1), BAD_VALUE);
        refused("gasDepthOf(-1)", rich, x -> x.gasDepthOf(-1), BAD_VALUE);
        refused("age(0)", IceCoreDater::new, x -> x.age(0), NOT_POSSIBLE);
        refused("gasAge(0)", IceCoreDater::new, x -> x.gasAge(0), NOT_POSSIBLE);
        refused("lead(0, 0)", IceCoreDater::new, x -> x.lead(0, 0), NOT_POSSIBLE);
    }

    private static void firstError() {
        sentence(TERMS, "If several of them apply, the one that is listed first in the @return line is returned.");
        due("BAD_VALUE, NOT_POSSIBLE", onBed(1000, 1000).addLayer(5001, 10), BAD_VALUE);
        due("BAD_VALUE, NOT_POSSIBLE", onBed(1000, 1000).addLayer(1, 9), BAD_VALUE);
        due("BAD_VALUE, FULL", sixteenLayers().addLayer(0, 10), BAD_VALUE);
        due("BAD_VALUE, FULL", sixteenLayers().addLayer(1, 2001), BAD_VALUE);
        IceCoreDater full = after(BoundaryCheck::sixteenLayers, x -> x.setBed(1000));
        due("NOT_POSSIBLE, FULL", full.addLayer(41, 10), NOT_POSSIBLE);
        due("FULL alone", full.addLayer(40, 10), FULL);
        due("BAD_VALUE, NOT_POSSIBLE, FULL", full.addLayer(5001, 9), BAD_VALUE);
        due("NO_SUCH_LAYER, BAD_VALUE", threeLayers().divide(3, 0), NO_SUCH_LAYER);
        due("NO_SUCH_LAYER, FULL", full.divide(16, 5), NO_SUCH_LAYER);
        due("NO_SUCH_LAYER, BAD_VALUE, FULL", full.divide(16, 0), NO_SUCH_LAYER);
        due("BAD_VALUE, FULL", full.divide(0, 0), BAD_VALUE);
        due("BAD_VALUE, FULL", full.divide(0, 60), BAD_VALUE);
        due("FULL alone", full.divide(0, 59), FULL);
        due("BAD_VALUE, NOT_POSSIBLE", threeLayers().setBed(999), BAD_VALUE);
        due("NO_SUCH_LAYER, BAD_VALUE", threeLayers().tellThinning(3, 9), NO_SUCH_LAYER);
        due("NO_SUCH_LAYER, BAD_VALUE", threeLayers().correct(3, 199), NO_SUCH_LAYER);
        due("NO_SUCH_LAYER, BAD_VALUE", threeLayers().setAsh(3, -1, 0), NO_SUCH_LAYER);
        due("NO_SUCH_LAYER, BAD_VALUE", threeLayers().setAsh(3, 0, -1), NO_SUCH_LAYER);
        due("NO_SUCH_LAYER, NOT_POSSIBLE", threeLayers().removeAsh(3), NO_SUCH_LAYER);
        due("NO_SUCH_LAYER, BAD_VALUE", threeLayers().setCount(3, 0), NO_SUCH_LAYER);
        due("BAD_VALUE, FULL", fullText().type(127), BAD_VALUE);
        for (int depth : new int[] {-1, 1}) {
            due("BAD_VALUE, NOT_POSSIBLE", new IceCoreDater().age(depth), BAD_VALUE);
            due("BAD_VALUE, NOT_POSSIBLE", new IceCoreDater().gasAge(depth), BAD_VALUE);
            due("BAD_VALUE, NOT_POSSIBLE", new IceCoreDater().lead(depth, 0), BAD_VALUE);
            due("BAD_VALUE, NOT_POSSIBLE", new IceCoreDater().lead(0, depth), BAD_VALUE);
        }
    }

    private static void none() {
        sentence(TERMS, "NONE is not an error; it is returned only if no error applies.");
        IceCoreDater x = threeLayers();
        dueAll("residual", new int[] {2, 3}, IceCoreDater::residual, x, NONE, NO_SUCH_LAYER);
        dueAll("countError", new int[] {2, 3}, IceCoreDater::countError, x, NONE, NO_SUCH_LAYER);
        dueAll("neededAccumulation", new int[] {2, 3}, IceCoreDater::neededAccumulation, x, NONE, NO_SUCH_LAYER);
        x = new IceCoreDater();
        dueAll("depthOf without layers", new int[] {-1, 0}, IceCoreDater::depthOf, x, BAD_VALUE, NONE);
        dueAll("gasDepthOf without layers", new int[] {-1, 0}, IceCoreDater::gasDepthOf, x, BAD_VALUE, NONE);
        due("undo()", x.undo(), NONE);
    }

    private static void constants() {
        sentence(TERMS, "The constants: `NO_SUCH_LAYER = -1000000001`: The number does not belong to a layer.");
        due("NO_SUCH_LAYER", IceCoreDater.NO_SUCH_LAYER, NO_SUCH_LAYER);
        dueAll("thickness", new int[] {-1, 0, 2, 3}, IceCoreDater::thickness, threeLayers(), NO_SUCH_LAYER, 2000, 4000, NO_SUCH_LAYER);
        sentence(TERMS, "`BAD_VALUE = -1000000002`: Another argument is out of range.");
        due("BAD_VALUE", IceCoreDater.BAD_VALUE, BAD_VALUE);
        due("correct(0, 199)", threeLayers().correct(0, 199), IceCoreDater.BAD_VALUE);
        sentence(TERMS, "`NOT_POSSIBLE = -1000000003`: This is not possible at present.");
        due("NOT_POSSIBLE", IceCoreDater.NOT_POSSIBLE, NOT_POSSIBLE);
        due("removeLowest()", new IceCoreDater().removeLowest(), IceCoreDater.NOT_POSSIBLE);
        sentence(TERMS, "`FULL = -1000000004`: There is no more room.");
        due("FULL", IceCoreDater.FULL, FULL);
        due("addLayer(1, 10)", sixteenLayers().addLayer(1, 10), IceCoreDater.FULL);
        sentence(TERMS, "`NONE = -1000000005`: There is no such value.");
        due("NONE", IceCoreDater.NONE, NONE);
        due("undo()", new IceCoreDater().undo(), IceCoreDater.NONE);
    }
}
