import java.io.IOException;
import java.lang.reflect.Constructor;
import java.lang.reflect.Field;
import java.lang.reflect.Member;
import java.lang.reflect.Method;
import java.lang.reflect.Modifier;
import java.nio.file.Files;
import java.nio.file.Path;
import java.util.Arrays;
import java.util.Set;
import java.util.TreeSet;
import java.util.regex.Matcher;
import java.util.regex.Pattern;

/** The public face, and those rules of LANGUAGE.md that can be read off the source. */
public final class LanguageTests {
    private static final String SOURCE = "src/main/java/IceCoreDater.java";
    private static final String[] FACE = {
        "accumulation(int)", "acts()", "addLayer(int,int)", "age(int)", "bestFunction()", "bestKink()", "clearText()",
        "correct(int,int)", "correction(int)", "countError(int)", "delay(int)", "depth()", "depthOf(int)",
        "divide(int,int)", "failure()", "fitting()", "gasAge(int)", "gasDepthOf(int)", "inversions()", "layers()",
        "lead(int,int)", "neededAccumulation(int)", "removeAsh(int)", "removeLowest()", "residual(int)", "run()",
        "seal()", "setAsh(int,int,int)", "setBed(int)", "setCloseOff(int)", "setCount(int,int)", "setFunction(int)",
        "setKink(int)", "tellThinning(int,int)", "thickness(int)", "thinning(int)", "tune()", "type(int)", "undo()",
        "years(int)"
    };
    private static final String[] CONSTANTS = {"BAD_VALUE", "FULL", "NONE", "NOT_POSSIBLE", "NO_SUCH_LAYER"};
    private static final String[] FORBIDDEN = {
        "\\bthrow\\b", "\\bthrows\\b", "\\btry\\b", "\\bcatch\\b", "\\bsynchronized\\b", "\\bassert\\b", "\\bimport\\b",
        "\\bpackage\\b", "->", "::", "static\\s*\\{", "\\bnull\\s*==", "\\bequals\\b", "\\bhashCode\\b", "\\btoString\\b",
        "\\bInteger\\b", "Exact\\b", "\\bdouble\\b", "\\bfloat\\b", "\\bRandom\\b", "System\\.(?!arraycopy\\b)", "\"\\s*\\+",
        "\\+\\s*\"", "\\bThread\\b", "\\bwhile\\s*\\(\\s*true"
    };

    private static int wrong = 0;

    public static void main(String[] args) throws IOException {
        face();
        String code = withoutComments(Files.readString(Path.of(SOURCE)));
        forbiddenWords(code);
        privateNames();
        methodLengths(code);
        System.out.println(wrong == 0 ? "LanguageTests: the rules are kept" : wrong + " rules are not kept");
        if (wrong != 0) {
            System.exit(1);
        }
    }

    private static void check(boolean holds, String what) {
        if (!holds) {
            wrong++;
            System.out.println(what);
        }
    }

    private static void face() {
        Class<?> type = IceCoreDater.class;
        check(Modifier.isPublic(type.getModifiers()) && Modifier.isFinal(type.getModifiers()), "the class is not public final");
        Set<String> open = new TreeSet<>();
        for (Method method : type.getDeclaredMethods()) {
            if (!Modifier.isPrivate(method.getModifiers())) {
                StringBuilder name = new StringBuilder(method.getName()).append('(');
                for (Class<?> parameter : method.getParameterTypes()) {
                    name.append(name.charAt(name.length() - 1) == '(' ? "" : ",").append(parameter.getName());
                }
                open.add(name.append(')').toString());
                boolean plain = method.getReturnType() == int.class && method.getModifiers() == Modifier.PUBLIC;
                check(plain, "not 'public int': " + method);
            }
        }
        check(open.equals(new TreeSet<>(Arrays.asList(FACE))), "the methods are " + open);
        Set<String> constants = new TreeSet<>();
        for (Field field : type.getDeclaredFields()) {
            if (!Modifier.isPrivate(field.getModifiers())) {
                constants.add(field.getName());
                check(field.getModifiers() == (Modifier.PUBLIC | Modifier.STATIC | Modifier.FINAL), "not a constant: " + field);
            }
        }
        check(constants.equals(new TreeSet<>(Arrays.asList(CONSTANTS))), "the constants are " + constants);
        Constructor<?>[] constructors = type.getDeclaredConstructors();
        check(constructors.length == 1 && constructors[0].getParameterCount() == 0
            && Modifier.isPublic(constructors[0].getModifiers()), "not just one public constructor without parameters");
    }

    private static void privateNames() {
        Set<String> names = new TreeSet<>();
        for (String method : FACE) {
            names.add(method.substring(0, method.indexOf('(')));
        }
        for (Class<?> inside : IceCoreDater.class.getDeclaredClasses()) {
            check(Modifier.isStatic(inside.getModifiers()), "not static: " + inside);
            check(fieldsOfObjects(inside) <= 20, "too many fields: " + inside);
            for (Member method : inside.getDeclaredMethods()) {
                check(!names.contains(method.getName()), "bears the name of a public method: " + method);
            }
        }
        check(IceCoreDater.class.getDeclaredClasses().length <= 12, "too many classes");
        check(fieldsOfObjects(IceCoreDater.class) <= 20, "too many fields: " + IceCoreDater.class);
        for (Method method : IceCoreDater.class.getDeclaredMethods()) {
            boolean hidden = Modifier.isPrivate(method.getModifiers());
            check(!hidden || !names.contains(method.getName()), "bears the name of a public method: " + method);
        }
    }

    private static long fieldsOfObjects(Class<?> type) {
        return Arrays.stream(type.getDeclaredFields()).filter(field -> !Modifier.isStatic(field.getModifiers())).count();
    }

    private static String withoutComments(String source) {
        return source.replaceAll("(?s)/\\*.*?\\*/", " ").replaceAll("//[^\n]*", " ");
    }

    private static void forbiddenWords(String code) {
        for (String word : FORBIDDEN) {
            Matcher matcher = Pattern.compile(word).matcher(code);
            check(!matcher.find(), "the source holds " + word);
        }
        check(code.chars().allMatch(sign -> sign < 128), "the source holds a sign above 127");
    }

    private static void methodLengths(String code) {
        int start = 0;
        String[] lines = code.split("\n");
        for (int i = 0; i < lines.length; i++) {
            if (lines[i].matches(" {4}( {4})?[a-zA-Z].*\\) \\{")) {
                start = i;
            }
            if (lines[i].matches(" {4}( {4})?\\}")) {
                check(i - start < 60 || lines[i].matches(" {4}\\}"), "too long: the method that starts with " + lines[start]);
            }
        }
    }
}
