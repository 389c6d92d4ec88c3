import java.io.IOException;
import java.nio.file.Files;
import java.nio.file.Path;
import java.util.ArrayList;
import java.util.List;

/** The example of README.md: its lines stand here once more, each executed and with the answer that is due. */
public final class ReadmeTests {
    private static final String MARK = "```";

    private static final List<String> LINES = new ArrayList<>();
    private static int wrong = 0;

    public static void main(String[] args) throws IOException {
        String readme = Files.readString(Path.of("README.md"));
        example();
        check(LINES.equals(exampleOf(readme)), "README.md shows another example than this test");
        commands(readme);
        System.out.println(wrong == 0 ? "ReadmeTests: the example holds" : wrong + " faults");
        if (wrong != 0) {
            System.exit(1);
        }
    }

    private static void check(boolean holds, String what) {
        if (!holds) {
            wrong++;
            System.out.println(what);
        }
    }

    private static void line(String words, int got, int want) {
        LINES.add(words);
        check(got == want, words + " answered " + got + ", due is " + want);
    }

    private static void example() {
        IceCoreDater core = new IceCoreDater();
        LINES.add("IceCoreDater core = new IceCoreDater();");
        line("core.addLayer(2000, 200);          // layer 0: 2000 cm thick, 200 mm of ice per year", core.addLayer(2000, 200), 0);
        line("core.addLayer(3000, 150);          // layer 1, below it", core.addLayer(3000, 150), 1);
        int age = core.age(5000);
        line("int age = core.age(5000);          // 308 years at its bottom", age, 308);
        int gasAge = core.gasAge(5000);
        line("int gasAge = core.gasAge(5000);    // 0: the delay of 466 years is longer", gasAge, 0);
        check(core.delay(1) == 466, "the delay is " + core.delay(1));
        line("core.setAsh(1, 300, 5);            // an ash bed there, known to be 300 years old, within 5", core.setAsh(1, 300, 5), 1);
        line("core.residual(1);                  // 8, so it doesn't fit", core.residual(1), 8);
        check(core.fitting() == 0, "the bed fits before tune()");
        line("core.tune();                       // finds the corrections with which the age there is 300", core.tune(), 1);
        check(core.age(5000) == 300, "the age is not 300, but " + core.age(5000));
        line("core.undo();                       // takes the tuning back", core.undo(), 3);
        check(core.age(5000) == 308, "the age is not 308, but " + core.age(5000));
        LINES.add("for (char sign : \"use kinked; kink 250\".toCharArray()) {");
        LINES.add("    core.type(sign);");
        LINES.add("}");
        for (char sign : "use kinked; kink 250".toCharArray()) {
            core.type(sign);
        }
        line("core.run();                        // executes both commands, as one act, and answers 2", core.run(), 2);
        line("core.age(5001);                    // BAD_VALUE: there is no ice at this depth", core.age(5001), IceCoreDater.BAD_VALUE);
        check(core.setKink(0) == 250, "the kink is not 250");
    }

    /** The commands that README.md lists. */
    private static void commands(String readme) {
        String[] texts = {"layer 500 90", "ash 0 30 5", "count 0 28", "fix 0 1100", "bed 90000", "kink 250", "close 6500", "use linear", "tune"};
        IceCoreDater core = new IceCoreDater();
        for (String text : texts) {
            for (char sign : text.toCharArray()) {
                core.type(sign);
            }
            check(core.run() == 1 && core.failure() == 0, "not executed: " + text);
            check(readme.contains("`" + text + "`"), "not in README.md: " + text);
        }
    }

    private static List<String> exampleOf(String readme) {
        int start = readme.indexOf(MARK + "java\n");
        int end = readme.indexOf("\n" + MARK + "\n", start + 1);
        if (start < 0 || end < 0) {
            return List.of();
        }
        return List.of(readme.substring(start + MARK.length() + 5, end).split("\n"));
    }
}
