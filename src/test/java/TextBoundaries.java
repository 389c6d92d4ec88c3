/** The boundary cases that the promises 16 to 19 name. The answers were worked out by hand. */
final class TextBoundaries extends BoundaryCheck {
    private TextBoundaries() {
    }

    static void check() {
        type();
        clearText();
        runOrder();
        runErrors();
        runAct();
        runAnswers();
        failure();
    }

    private static void type() {
        sentence(16, "Appends a character to the text.");
        IceCoreDater x = typed(new IceCoreDater(), "kink 12");
        x.type('3');
        due("run()", x.run(), 1);
        due("the kink", x.setKink(0), 123);
        range(16, "`code`: code of the character, 32 to 126", BoundaryCheck::rich, IceCoreDater::type, 32, 126);
        sentence(16, "Returns the new length of the text;");
        x = new IceCoreDater();
        for (int i = 1; i <= 80; i++) {
            due("type(" + (32 + i) + ")", x.type(32 + i), i);
        }
        x.clearText();
        due("type(126)", x.type(126), 1);
        x.run();
        due("type(32)", x.type(32), 1);
        beyond(16, "BAD_VALUE if code is out of range;", BoundaryCheck::rich, IceCoreDater::type, 32, 126);
        for (int code : new int[] {0, 9, 10, -32, 128, 256 + 65, 65536 + 65}) {
            refused("type(" + code + ")", BoundaryCheck::rich, y -> y.type(code), BAD_VALUE);
        }
        sentence(16, "FULL if the text has 80 characters.");
        due("character 80", typed(new IceCoreDater(), "x".repeat(79)).type('x'), 80);
        refused("character 81", () -> typed(new IceCoreDater(), "x".repeat(80)), y -> y.type('x'), FULL);
        refused("character 82", () -> typed(new IceCoreDater(), "x".repeat(81)), y -> y.type(' '), FULL);
    }

    private static void clearText() {
        sentence(17, "Clears the text.");
        IceCoreDater x = typed(new IceCoreDater(), "kink 5;");
        x.clearText();
        due("type('u')", x.type('u'), 1);
        runs(x, "se told", 1, 0);
        due("the kink", x.setKink(0), 300);
        x = typed(new IceCoreDater(), "x".repeat(80));
        x.clearText();
        due("a full text has room again", x.type('x'), 1);
        sentence(17, "Returns the previous length of the text.");
        x = new IceCoreDater();
        due("clearText() of no text", x.clearText(), 0);
        x.type(' ');
        due("clearText() of one character", x.clearText(), 1);
        due("clearText(), again", x.clearText(), 0);
        due("clearText() of a full text", typed(x, "x".repeat(81)).clearText(), 80);
        x.type('x');
        x.run();
        due("clearText() after run()", x.clearText(), 0);
    }

    // ---- run

    private static void runOrder() {
        sentence(18, "Executes the commands of the text in their order, up to the first one that is malformed or whose method"
            + " returns an error, and clears the text.");
        IceCoreDater x = new IceCoreDater();
        runs(x, "kink 1;kink 2;kink 3", 3, 0);
        due("the kink", x.setKink(0), 3);
        due("the text after success", x.clearText(), 0);
        runs(x, "layer 5 50;divide;kink 5", 1, 1);
        due("the text after a malformed command", x.clearText(), 0);
        runs(x, "layer 6 60;kink 901;kink 6", 1, BAD_VALUE);
        due("the text after an error", x.clearText(), 0);
        due("the kink", x.setKink(0), 0);
        runs(x, "fix 1 900;fix 2 900;fix 0 900", 1, NO_SUCH_LAYER);
        dueAll("correction", new int[] {0, 1}, IceCoreDater::correction, x, 1000, 900);
        runs(x, "kink 7;bed;kink 901", 1, 1);
        runs(x, "kink 8;kink 901;bed", 1, BAD_VALUE);
        sentence(18, "The commands before it remain executed.");
        due("the kink", x.setKink(0), 8);
        due("layers()", x.layers(), 2);
        runs(x, "ash 0 5 0;ash 1 4 0;tune;kink 9", 2, NOT_POSSIBLE);
        due("the number of beds", x.setAsh(1, 4, 0), 2);
        due("the kink", x.setKink(0), 0);
    }

    private static void runErrors() {
        sentence(18, "whose method returns an error");
        error("layer 0 10", threeLayers(), BAD_VALUE);
        error("layer 1 9", threeLayers(), BAD_VALUE);
        error("layer 999999999 999999999", threeLayers(), BAD_VALUE);
        error("layer 1 10", onBed(1000, 1000), NOT_POSSIBLE);
        error("layer 1 10", sixteenLayers(), FULL);
        error("ash 3 0 0", threeLayers(), NO_SUCH_LAYER);
        error("ash 0 100000001 0", threeLayers(), BAD_VALUE);
        error("ash 0 0 10001", threeLayers(), BAD_VALUE);
        error("count 3 1", threeLayers(), NO_SUCH_LAYER);
        error("count 0 0", threeLayers(), BAD_VALUE);
        error("count 0 1000001", threeLayers(), BAD_VALUE);
        error("fix 3 200", threeLayers(), NO_SUCH_LAYER);
        error("fix 0 199", threeLayers(), BAD_VALUE);
        error("fix 0 5001", threeLayers(), BAD_VALUE);
        error("bed 999", threeLayers(), BAD_VALUE);
        error("bed 200001", threeLayers(), BAD_VALUE);
        error("bed 8999", threeLayers(), NOT_POSSIBLE);
        error("kink 901", threeLayers(), BAD_VALUE);
        error("close 15001", threeLayers(), BAD_VALUE);
        error("tune", threeLayers(), NOT_POSSIBLE);
        error("tune", new IceCoreDater(), NOT_POSSIBLE);
        // A number that a method answers is no error, however small it is.
        IceCoreDater x = threeLayers();
        runs(x, "count 0 1000000;ash 0 100000000 0;kink 0;kink 0", 4, 0);
    }

    private static void error(String command, IceCoreDater x, int error) {
        int layers = x.layers();
        runs(x, "use told;" + command + ";use linear", 1, error);
        due("the function", x.setFunction(0), 2);
        due("layers()", x.layers(), layers);
    }

    private static void runAct() {
        sentence(18, "This is one act, also if no command is executed.");
        String[] texts = {"", ";", "x", "kink 901", "kink 200", "tune;tune", "kink 1;kink 2;kink 3;kink 4;kink 5;kink 6;kink 7;kink 8;kink 9",
            "layer 9 90;fix 0 300;count 1 7;ash 2 500 5;bed 9009;close 0;use kinked;tune"};
        for (String text : texts) {
            act("run() of '" + text + "'", () -> {
                IceCoreDater x = rich();
                x.clearText();
                return typed(x, text);
            }, x -> x.run());
        }
        act("run() of a new core", IceCoreDater::new, x -> x.run());
        IceCoreDater x = new IceCoreDater();
        for (int i = 1; i <= 9; i++) {
            runs(x, "", 0, 1);
            due("acts()", x.acts(), i);
        }
        due("recorded states", recordedStates(x), 8);
    }

    private static void runAnswers() {
        sentence(18, "Returns the number of commands that were executed.");
        IceCoreDater x = new IceCoreDater();
        runs(x, "", 0, 1);
        runs(x, "kink 901", 0, BAD_VALUE);
        runs(x, "kink 1", 1, 0);
        runs(x, "kink 1;kink 901", 1, BAD_VALUE);
        runs(x, "kink 1;", 1, 1);
        runs(x, "kink 1;kink 2", 2, 0);
        x.addLayer(1, 10);
        x.setAsh(0, 1, 0);
        runs(x, "tune;tune;tune;tune;tune;tune;tune;tune;tune;tune;tune;tune;tune;tune;tune;tune", 16, 0);
        runs(x, "tune;tune;tune;tune;tune;tune;tune;tune;tune;tune;tune;tune;tune;tune;tune;tune;", 16, 1);
    }

    // ---- failure

    private static void failure() {
        sentence(19, "Returns why the latest run() ended early.");
        IceCoreDater x = new IceCoreDater();
        runs(x, "kink 901", 0, BAD_VALUE);
        runs(x, "tune", 0, NOT_POSSIBLE);
        runs(x, "kink 1", 1, 0);
        runs(x, "kink", 0, 1);
        x.setKink(901);
        x.removeLowest();
        x.type(0);
        typed(x, "kink 901");
        x.clearText();
        x.undo();
        due("failure() after other calls", x.failure(), 1);
        due("failure(), again", x.failure(), 1);
        sentence(19, "Returns 0 if all commands were executed;");
        runs(x, "kink 1", 1, 0);
        runs(x, "kink 1;kink 2", 2, 0);
        sentence(19, "1 if a command was malformed;");
        runs(x, "", 0, 1);
        runs(x, "kink 1;", 1, 1);
        runs(x, "kink 1;kink 2;x;kink 3", 2, 1);
        sentence(19, "the error that a method returned;");
        runs(threeLayers(), "kink 1;fix 3 900", 1, NO_SUCH_LAYER);
        runs(threeLayers(), "kink 1;fix 0 199", 1, BAD_VALUE);
        runs(threeLayers(), "kink 1;tune", 1, NOT_POSSIBLE);
        runs(sixteenLayers(), "kink 1;layer 1 10", 1, FULL);
        sentence(19, "NONE if there was no run() yet.");
        x = new IceCoreDater();
        due("failure()", x.failure(), NONE);
        typed(x, "kink 901");
        x.clearText();
        x.addLayer(0, 0);
        x.undo();
        due("failure()", x.failure(), NONE);
        x.run();
        due("failure() after run()", x.failure(), 1);
    }
}
