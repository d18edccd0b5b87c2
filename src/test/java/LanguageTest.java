import java.io.IOException;
import java.lang.reflect.Executable;
import java.lang.reflect.Field;
import java.lang.reflect.Method;
import java.lang.reflect.Modifier;
import java.nio.file.Files;
import java.nio.file.Path;
import java.util.ArrayList;
import java.util.HashSet;
import java.util.List;
import java.util.Set;
import java.util.regex.Matcher;
import java.util.regex.Pattern;

/** The rules of ../shared/LANGUAGE.md that a look at the source and at the compiled classes can tell. */
public final class LanguageTest {
    private static final Path SOURCE = Path.of("src", "main", "java", "PacketGate.java");
    private static final String RULED_OUT = "throw|throws|try|catch|finally|synchronized|assert|volatile|native|package"
            + "|\\w+Exact|\\w*Exception|Thread|System(?!\\.arraycopy)|Random|hashCode|Object";

    private final Check check = new Check("LANGUAGE.md");
    private final List<Class<?>> classes = new ArrayList<>();

    public static void main(String[] args) throws IOException {
        LanguageTest test = new LanguageTest();
        test.classes.add(PacketGate.class);
        test.classes.addAll(List.of(PacketGate.class.getDeclaredClasses()));
        test.checkClassesInside();
        test.checkNamesOfPrivateMethods();
        test.checkStaticFields();
        test.checkSizes();
        test.checkWords(withoutCommentsAndTexts(Files.readString(SOURCE)));
        test.checkLengths(Files.readAllLines(SOURCE));
        test.check.end();
    }

    private void checkClassesInside() {
        for (Class<?> inside : PacketGate.class.getDeclaredClasses()) {
            check.holds("rule 1: " + inside + " is static", Modifier.isStatic(inside.getModifiers()));
            check.holds("rule 1: " + inside + " is not public", !Modifier.isPublic(inside.getModifiers()));
            check.due("rule 2: classes in " + inside, inside.getDeclaredClasses().length, 0);
        }
    }

    private void checkNamesOfPrivateMethods() {
        Set<String> face = new HashSet<>();
        for (Method method : PacketGate.class.getDeclaredMethods()) {
            if (Modifier.isPublic(method.getModifiers())) {
                face.add(method.getName());
            }
        }
        for (Class<?> one : classes) {
            for (Method method : one.getDeclaredMethods()) {
                check.holds("rule 1: a private method " + method,
                        !Modifier.isPrivate(method.getModifiers()) || !face.contains(method.getName()));
            }
        }
    }

    private void checkStaticFields() {
        Set<Class<?>> allowed = Set.of(int.class, long.class, boolean.class, char.class, String.class, int[].class,
                long[].class, char[].class, byte[].class);
        for (Class<?> one : classes) {
            for (Field field : one.getDeclaredFields()) {
                if (Modifier.isStatic(field.getModifiers())) {
                    check.holds("rule 5: " + field + " is final", Modifier.isFinal(field.getModifiers()));
                    check.holds("rule 5: the type of " + field, allowed.contains(field.getType()));
                }
            }
        }
    }

    private void checkSizes() {
        check.holds("rule 11: " + classes.size() + " classes", classes.size() <= 12);
        for (Class<?> one : classes) {
            int fields = 0;
            for (Field field : one.getDeclaredFields()) {
                fields += Modifier.isStatic(field.getModifiers()) ? 0 : 1;
            }
            check.holds("rule 11: " + fields + " fields of " + one, fields <= 20);
            List<Executable> all = new ArrayList<>(List.of(one.getDeclaredMethods()));
            all.addAll(List.of(one.getDeclaredConstructors()));
            for (Executable method : all) {
                check.holds("rule 11: parameters of " + method, method.getParameterCount() <= 7);
            }
        }
    }

    private void checkWords(String code) {
        Matcher word = Pattern.compile("\\b(" + RULED_OUT + ")\\b|->|::|\"\\s*\\+|\\+\\s*\"|static \\{").matcher(code);
        while (word.find()) {
            check.holds("rules 2, 4 to 6, 10 and 13: no " + word.group(), false);
        }
        check.holds("all words were looked at", code.contains("public final class PacketGate"));
    }

    /** A method ends with the first brace that stands as far in as its first line. */
    private void checkLengths(List<String> lines) {
        Pattern head = Pattern.compile("( {4}| {8})(public |private |static )*[\\w\\[\\]]+ ?\\w*\\(.*\\{");
        for (int first = 0; first < lines.size(); first++) {
            Matcher matcher = head.matcher(lines.get(first));
            if (matcher.matches()) {
                int last = lines.subList(first, lines.size()).indexOf(matcher.group(1) + "}");
                check.holds("rule 11: lines of " + lines.get(first).trim(), last > 0 && last <= 60);
            }
        }
    }

    private static String withoutCommentsAndTexts(String source) {
        String code = source.replaceAll("(?s)/\\*.*?\\*/", "").replaceAll("//[^\n]*", "");
        return code.replaceAll("\"[^\"\n]*\"", "\"\"").replaceAll("'.'", "' '");
    }
}
