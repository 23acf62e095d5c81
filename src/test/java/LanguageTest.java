import java.io.IOException;
import java.lang.reflect.Constructor;
import java.lang.reflect.Field;
import java.lang.reflect.Method;
import java.lang.reflect.Modifier;
import java.nio.file.Files;
import java.nio.file.Path;
import java.util.Set;
import java.util.TreeSet;
import java.util.regex.Matcher;
import java.util.regex.Pattern;

/** The public face, and the rules of LANGUAGE.md that a look at the file or the classes can tell. */
public final class LanguageTest {
    private static final Set<String> FACE = Set.of(
            "feed(int, long, int)", "fill(int, int, int)", "alter(int, int, int)", "octet(int, int)",
            "cut(int, int)", "tag(int)", "seal(int)", "open(int)", "sum(int)", "out(int)", "take(int)",
            "roundKey(int)");
    private static final Check check = new Check();

    public static void main(String[] args) throws IOException {
        face();
        for (Class<?> inside : SlicedModes.class.getDeclaredClasses()) {
            inside(inside);
        }
        check.holds("at most twelve classes", SlicedModes.class.getDeclaredClasses().length <= 11);
        words(Files.readString(Path.of("src/main/java/SlicedModes.java")));
        check.end();
    }

    private static String told(Method method) {
        StringBuilder types = new StringBuilder();
        for (Class<?> type : method.getParameterTypes()) {
            types.append(types.length() == 0 ? "" : ", ").append(type.getName());
        }
        return method.getName() + "(" + types + ")";
    }

    private static void face() {
        int modifiers = SlicedModes.class.getModifiers();
        check.holds("public and final", Modifier.isPublic(modifiers) && Modifier.isFinal(modifiers));
        Set<String> open = new TreeSet<>();
        Set<String> names = new TreeSet<>();
        for (Method method : SlicedModes.class.getDeclaredMethods()) {
            if (Modifier.isPublic(method.getModifiers())) {
                open.add(told(method));
                names.add(method.getName());
                check.holds("an int comes of " + method.getName(), method.getReturnType() == int.class);
                check.holds("not static: " + method.getName(), !Modifier.isStatic(method.getModifiers()));
            }
        }
        check.holds("the public methods are " + open, open.equals(FACE));
        for (Method method : SlicedModes.class.getDeclaredMethods()) {
            boolean shut = Modifier.isPrivate(method.getModifiers());
            check.holds("private or of the face: " + method, shut != open.contains(told(method)));
            check.holds("no private method has a public name: " + method, !shut || !names.contains(method.getName()));
        }
        Constructor<?>[] made = SlicedModes.class.getDeclaredConstructors();
        check.holds("one public constructor", made.length == 1
                && Modifier.isPublic(made[0].getModifiers()) && made[0].getParameterCount() == 0);
        fields(SlicedModes.class, true);
    }

    private static void fields(Class<?> type, boolean allPrivate) {
        int own = 0;
        for (Field field : type.getDeclaredFields()) {
            int modifiers = field.getModifiers();
            own += Modifier.isStatic(modifiers) ? 0 : 1;
            check.holds("private: " + field, !allPrivate || Modifier.isPrivate(modifiers));
            check.holds("static is final: " + field, !Modifier.isStatic(modifiers) || Modifier.isFinal(modifiers));
        }
        check.holds("some twenty fields in " + type.getName(), own <= 20);
    }

    private static void inside(Class<?> type) {
        check.holds("static: " + type, Modifier.isStatic(type.getModifiers()));
        fields(type, false);
        for (Method method : type.getDeclaredMethods()) {
            check.holds("seven parameters at most: " + method, method.getParameterCount() <= 7);
            for (String known : FACE) {
                check.holds("a public one's name: " + method, !known.startsWith(method.getName() + "("));
            }
        }
    }

    private static void words(String source) {
        String code = source.replaceAll("(?s)/\\*.*?\\*/", "").replaceAll("//[^\n]*", "");
        String[] never = {"\\bthrow", "\\btry\\b", "\\bcatch\\b", "\\bsynchronized\\b", "\\bassert\\b", "\\bimport\\b",
            "\\bpackage\\b", "->", "::", "\\bstatic\\s*\\{", "Exact\\b", "\\bwhile\\b", "\\bprotected\\b", "\\bThread\\b",
            "System\\.", "\\bRandom\\b", "[^\\d]/\\s*[a-z(]"};
        for (String word : never) {
            Matcher found = Pattern.compile(word).matcher(code);
            check.holds("the file has " + word, !found.find());
        }
        Matcher method = Pattern.compile("(?ms)^( +)(?:\\w+ )+\\w+\\([^)]*\\) \\{\n.*?^\\1\\}").matcher(code);
        int methods = 0;
        while (method.find()) {
            methods++;
            long lines = method.group().lines().filter(line -> !line.isBlank()).count();
            check.holds("a method of some sixty lines: " + method.group().lines().findFirst(), lines <= 60);
        }
        check.holds("methods are found", methods > 100);
    }
}
