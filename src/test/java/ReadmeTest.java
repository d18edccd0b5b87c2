import java.io.IOException;
import java.lang.reflect.Method;
import java.nio.file.Files;
import java.nio.file.Path;
import java.util.ArrayList;
import java.util.HashSet;
import java.util.List;
import java.util.Set;
import java.util.regex.Matcher;
import java.util.regex.Pattern;

/** The examples of README.md: each call is made, and answers what the text behind it begins with. */
public final class ReadmeTest {
    private static final Pattern TYPED = Pattern.compile("for \\(char c : \"(.*)\"\\.toCharArray\\(\\)\\) gate\\.type\\(c\\);");
    private static final Pattern CALL = Pattern.compile("gate\\.(\\w+)\\((.*)\\);(?: *// (-?\\w+): .*)?");

    private final Check check = new Check("README.md");
    private final Set<String> shown = new HashSet<>();

    public static void main(String[] args) throws IOException, ReflectiveOperationException {
        ReadmeTest test = new ReadmeTest();
        String readme = Files.readString(Path.of("README.md"));
        Matcher example = Pattern.compile("(?s)```java\n(.*?)```").matcher(readme);
        while (example.find()) {
            test.checkExample(example.group(1).split("\n"));
        }
        test.checkAllIsShown();
        test.check.end();
    }

    private void checkExample(String[] lines) throws ReflectiveOperationException {
        check.dueText("an example's first line", lines[0], "PacketGate gate = new PacketGate();");
        PacketGate gate = new PacketGate();
        for (int i = 1; i < lines.length; i++) {
            Matcher typed = TYPED.matcher(lines[i]);
            Matcher call = CALL.matcher(lines[i]);
            if (typed.matches()) {
                Gates.type(gate, typed.group(1));
                shown.add("type");
            } else if (call.matches()) {
                checkCall(gate, lines[i], call);
            } else {
                check.holds("a call that can be read: " + lines[i], false);
            }
        }
    }

    private void checkCall(PacketGate gate, String line, Matcher call) throws ReflectiveOperationException {
        shown.add(call.group(1));
        int answer = answerOf(gate, call.group(1), call.group(2));
        check.due(line, answer, call.group(3) == null ? PacketGate.PASSED : worth(call.group(3)));
    }

    private static int answerOf(PacketGate gate, String name, String arguments) throws ReflectiveOperationException {
        List<Object> values = new ArrayList<>();
        for (String argument : arguments.isEmpty() ? new String[0] : arguments.split(", ")) {
            boolean isTruth = argument.equals("true") || argument.equals("false");
            values.add(isTruth ? (Object) Boolean.valueOf(argument) : (Object) Integer.valueOf(argument));
        }
        return (Integer) methodOf(name).invoke(gate, values.toArray());
    }

    private static Method methodOf(String name) throws NoSuchMethodException {
        for (Method method : PacketGate.class.getMethods()) {
            if (method.getName().equals(name)) {
                return method;
            }
        }
        throw new NoSuchMethodException(name);
    }

    private static int worth(String answer) throws ReflectiveOperationException {
        boolean isConstant = Character.isUpperCase(answer.charAt(0));
        return isConstant ? PacketGate.class.getField(answer).getInt(null) : Integer.parseInt(answer);
    }

    private void checkAllIsShown() {
        for (Method method : PacketGate.class.getMethods()) {
            if (method.getDeclaringClass() == PacketGate.class) {
                check.holds(method.getName() + " is shown", shown.contains(method.getName()));
            }
        }
    }
}
