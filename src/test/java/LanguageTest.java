import java.io.IOException;
import java.lang.reflect.Constructor;
import java.lang.reflect.Field;
import java.lang.reflect.Method;
import java.lang.reflect.Modifier;
import java.nio.file.Files;
import java.nio.file.Path;
import java.util.ArrayList;
import java.util.List;
import java.util.Set;
import java.util.TreeSet;
import java.util.regex.Matcher;
import java.util.regex.Pattern;

/** The public face, and the rules of LANGUAGE.md that a look at the file or the classes can tell. */
public final class LanguageTest {
    private static final Set<String> FACE = Set.of(
            "feed(int, long, int)", "fill(int, int, int)", "alter(int, int, int)", "octet(int, int)",
            "cut(int, int)", "tag(int)", "seal(int)", "open(int)", "sum(int)", "out(int)", "take(int)",
            "roundKey(int)");
    private static final Check check = new Check();

    public static void main(String[] args) throws IOException {
        face();
        for (Class<?> inside : SlicedModes.class.getDeclaredClasses()) {
            inside(inside);
        }
        check.holds("at most twelve classes", SlicedModes.class.getDeclaredClasses().length <= 11);
        words(Files.readString(Path.of("src/main/java/SlicedModes.java")));
        check.end();
    }

    private static String told(Method method) {
        StringBuilder types = new StringBuilder();
        for (Class<?> type : method.getParameterTypes()) {
            types.append(types.length() == 0 ? "" : ", ").append(type.getName());
        }
        return method.getName() + "(" + types + ")";
    }

    private static void face() {
        int modifiers = SlicedModes.class.getModifiers();
        check.holds("public and final", Modifier.isPublic(modifiers) && Modifier.isFinal(modifiers));
        Set<String> open = new TreeSet<>();
        Set<String> names = new TreeSet<>();
        for (Method method : SlicedModes.class.getDeclaredMethods()) {
            if (Modifier.isPublic(method.getModifiers())) {
                open.add(told(method));
                names.add(method.getName());
                check.holds("an int comes of " + method.getName(), method.getReturnType() == int.class);
                check.holds("not static: " + method.getName(), !Modifier.isStatic(method.getModifiers()));
            }
        }
        check.holds("the public methods are " + open, open.equals(FACE));
        for (Method method : SlicedModes.class.getDeclaredMethods()) {
            boolean shut = Modifier.isPrivate(method.getModifiers());
            check.holds("private or of the face: " + method, shut != open.contains(told(method)));
            check.holds("no private method has a public name: " + method, !shut || !names.contains(method.getName()));
        }
        Constructor<?>[] made = SlicedModes.class.getDeclaredConstructors();
        check.holds("one public constructor", made.length == 1
                && Modifier.isPublic(made[0].getModifiers()) && made[0].getParameterCount() == 0);
        fields(SlicedModes.class, true);
    }

    private static void fields(Class<?> type, boolean allPrivate) {
        int own = 0;
        for (Field field : type.getDeclaredFields()) {
            int modifiers = field.getModifiers();
            own += Modifier.isStatic(modifiers) ? 0 : 1;
            check.holds("private: " + field, !allPrivate || Modifier.isPrivate(modifiers));
            check.holds("static is final: " + field, !Modifier.isStatic(modifiers) || Modifier.isFinal(modifiers));
        }
        check.holds("some twenty fields in " + type.getName(), own <= 20);
    }

    private static void inside(Class<?> type) {
        check.holds("static: " + type, Modifier.isStatic(type.getModifiers()));
        fields(type, false);
        for (Method method : type.getDeclaredMethods()) {
            check.holds("seven parameters at most: " + method, method.getParameterCount() <= 7);
            for (String known : FACE) {
                check.holds("a public one's name: " + method, !known.startsWith(method.getName() + "("));
            }
        }
    }

    private static void words(String source) {
        String code = source.replaceAll("(?s)/\\*.*?\\*/", "").replaceAll("//[^\n]*", "");
        String[] never = {"\\bthrow", "\\btry\\b", "\\bcatch\\b", "\\bsynchronized\\b", "\\bassert\\b", "\\bimport\\b",
            "\\bpackage\\b", "->", "::", "\\bstatic\\s*\\{", "Exact\\b", "\\bwhile\\b", "\\bprotected\\b", "\\bThread\\b",
            "System\\.", "\\bRandom\\b", "[^\\d]/\\s*[a-z(]"};
        for (String word : never) {
            Matcher found = Pattern.compile(word).matcher(code);
            check.holds("the file has " + word, !found.find());
        }
        List<String> methods = methods(code);
        check.holds("methods are found", methods.size() > 100);
        for (String method : methods) {
            long lines = method.lines().filter(line -> !line.isBlank()).count();
            check.holds("a method of some sixty lines: " + head(method), lines <= 60);
            indexes(method);
            check.holds("made in constructors alone: " + head(method),
                    head(method).contains("public SlicedModes(") || !Pattern.compile("\\bnew\\b").matcher(method).find());
        }
        circuits(code);
    }

    /** With their heads; the constructors of the classes inside are not among them. */
    private static List<String> methods(String code) {
        List<String> found = new ArrayList<>();
        Matcher method = Pattern.compile("(?ms)^( +)(?:\\w+ )+\\w+\\([^)]*\\) \\{\n.*?^\\1\\}").matcher(code);
        while (method.find()) {
            found.add(method.group());
        }
        return found;
    }

    private static String head(String method) {
        return method.lines().findFirst().orElse("").trim();
    }

    /** "An index is looked at before it is used": the method itself asks for the array's length. */
    private static void indexes(String method) {
        Matcher used = Pattern.compile("\\b(\\w+)\\[(?!\\])").matcher(method);
        while (used.find()) {
            String array = used.group(1);
            boolean looked = Pattern.compile("\\b" + array + "\\.length\\b").matcher(method).find();
            check.holds("an index of " + array + " is looked at: " + head(method), looked);
        }
    }

    /** "No secret chooses a place or a way": a circuit has neither index nor condition. */
    private static void circuits(String code) {
        Matcher slices = Pattern.compile("(?ms)^    private static final class Slices \\{\n.*?^    \\}").matcher(code);
        check.holds("the circuits are found", slices.find());
        int looked = 0;
        for (String method : methods(slices.group())) {
            // The round keys are chosen by the round, which is no secret.
            if (!head(method).startsWith("void addKey(")) {
                looked++;
                check.holds("a circuit: " + head(method),
                        !Pattern.compile("\\bif\\b|\\?|\\[|\\bfor\\b|\\bswitch\\b|&&|\\|\\|").matcher(method).find());
            }
        }
        check.holds("circuits are looked at", looked > 12);
    }
}
