import java.io.File;
import java.io.PrintWriter;
import java.io.StringWriter;
import java.net.URISyntaxException;
import java.util.ArrayList;
import java.util.HashMap;
import java.util.List;
import java.util.Map;
import java.util.Optional;
import java.util.Set;
import java.util.TreeSet;
import java.util.regex.Matcher;
import java.util.regex.Pattern;
import java.util.spi.ToolProvider;

/**
 * Rules of LANGUAGE.md that show in the compiled class better than in the source: which library it
 * calls (rule 4), that it throws nothing (rule 6), that it doesn't recur and how deep its calls go
 * (rules 8 and 11), and that objects and rows are made in constructors alone (rule 12).
 */
public final class CallTests {
    private static final int DEEPEST = 8;
    private static final int MOST_PARAMETERS = 7;
    /** What the class needs of the library that rule 4 lists. */
    private static final Set<String> LIBRARY = Set.of("java/lang/Object.<init>", "java/lang/System.arraycopy",
        "java/lang/Math.max", "java/lang/Math.min", "java/lang/Math.abs", "java/lang/String.length", "java/lang/String.charAt");

    private static final Pattern CLASS = Pattern.compile("^[a-z ]*\\bclass ([\\w$]+).*\\{$");
    private static final Pattern METHOD = Pattern.compile("^  (?:[^ (]+ )*([\\w$]+)\\((.*)\\);$");
    private static final Pattern CALL = Pattern.compile("// (?:Interface)?Method ([^:]+):");
    private static final Pattern MAKES = Pattern.compile(": (new|newarray|anewarray|multianewarray)\\b");

    private static final Map<String, Set<String>> CALLS = new HashMap<>();
    private static int wrong = 0;

    public static void main(String[] args) throws URISyntaxException {
        Optional<ToolProvider> javap = ToolProvider.findFirst("javap");
        if (javap.isEmpty()) {
            System.out.println("CallTests: there is no javap here, nothing is checked");
            return;
        }
        for (String line : disassembled(javap.get())) {
            read(line);
        }
        check(CALLS.containsKey("IceCoreDater.run") && CALLS.containsKey("IceCoreDater$Core.append"), "the methods are not found");
        for (String method : CALLS.keySet()) {
            int depth = depth(method, new ArrayList<>());
            check(depth <= DEEPEST, method + " calls " + depth + " deep");
        }
        System.out.println(wrong == 0 ? "CallTests: the rules are kept" : wrong + " rules are not kept");
        if (wrong != 0) {
            System.exit(1);
        }
    }

    private static void check(boolean holds, String what) {
        if (!holds) {
            wrong++;
            System.out.println(what);
        }
    }

    private static String[] disassembled(ToolProvider javap) throws URISyntaxException {
        File folder = new File(IceCoreDater.class.getProtectionDomain().getCodeSource().getLocation().toURI());
        List<String> arguments = new ArrayList<>(List.of("-c", "-p"));
        for (File file : folder.listFiles()) {
            if (file.getName().matches("IceCoreDater(\\$.*)?\\.class")) {
                arguments.add(file.getPath());
            }
        }
        StringWriter text = new StringWriter();
        javap.run(new PrintWriter(text, true), new PrintWriter(System.err, true), arguments.toArray(new String[0]));
        return text.toString().split("\\R");
    }

    private static String type = "";
    private static String method = "";

    private static void read(String line) {
        Matcher classLine = CLASS.matcher(line);
        if (classLine.matches()) {
            type = classLine.group(1);
        }
        Matcher methodLine = METHOD.matcher(line);
        if (methodLine.matches()) {
            String name = methodLine.group(1);
            method = type + "." + (name.equals(type) ? "<init>" : name);
            CALLS.computeIfAbsent(method, key -> new TreeSet<>());
            check(methodLine.group(2).split(",").length <= MOST_PARAMETERS, method + " takes too many parameters");
        }
        readCode(line);
    }

    private static void readCode(String line) {
        check(!line.contains(": athrow") && !line.contains("Exception table:"), method + " throws or catches");
        check(!line.contains(": invokedynamic"), method + " calls dynamically");
        check(!MAKES.matcher(line).find() || method.endsWith(".<init>"), method + " makes an object");
        Matcher call = CALL.matcher(line);
        if (call.find()) {
            String called = call.group(1).replace("\"", "");
            called = called.contains(".") ? called : type + "." + called;
            if (!called.startsWith("IceCoreDater")) {
                check(LIBRARY.contains(called), method + " calls " + called);
            } else {
                CALLS.get(method).add(called);
            }
        }
    }

    private static int depth(String of, List<String> open) {
        if (open.contains(of)) {
            check(false, of + " calls itself");
            return 0;
        }
        open.add(of);
        int deepest = 0;
        for (String called : CALLS.getOrDefault(of, Set.of())) {
            deepest = Math.max(deepest, depth(called, open));
        }
        open.remove(of);
        return deepest + 1;
    }
}
