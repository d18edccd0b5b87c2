import java.lang.reflect.Constructor;
import java.lang.reflect.Field;
import java.lang.reflect.Method;
import java.lang.reflect.Modifier;
import java.util.Map;
import java.util.Set;
import java.util.TreeMap;
import java.util.TreeSet;

/** The public face: the document's constants, constructor and methods, and nothing else that others can see. */
public final class FaceTest {
    private static final Map<String, Integer> CONSTANTS = new TreeMap<>(Map.ofEntries(
            Map.entry("PASSED", 0), Map.entry("SEALED", 1), Map.entry("REFUSED", -1),
            Map.entry("SYNTAX", -2), Map.entry("FULL", -3), Map.entry("DROPPED", -4),
            Map.entry("MARTIAN", -5), Map.entry("STATE", -6), Map.entry("NO_ROOM", -7),
            Map.entry("REPLAY", -8), Map.entry("FORGED", -9), Map.entry("UNKNOWN", -10),
            Map.entry("EXHAUSTED", -11)));
    private static final Set<String> METHODS = new TreeSet<>(Set.of(
            "type(int)", "install()", "withdraw(int)", "ruleText(int,int)", "expose(int,int,int,int)",
            "hide(int,int)", "header(int,int,int,int)", "outward(int,int)", "inward(int,int)",
            "report(int)", "unseal(int,int,boolean,int,int)", "rekey()", "tick(int)", "emission(int)",
            "flow(int,int)", "count(int)"));

    public static void main(String[] args) throws IllegalAccessException {
        Check check = new Check();
        check.holds("public and final", (PacketGate.class.getModifiers() & (Modifier.PUBLIC | Modifier.FINAL))
                == (Modifier.PUBLIC | Modifier.FINAL));
        checkConstants(check);
        checkMethods(check);
        Constructor<?>[] constructors = PacketGate.class.getDeclaredConstructors();
        check.due("constructors", constructors.length, 1);
        check.due("parameters of the constructor", constructors[0].getParameterCount(), 0);
        check.holds("the constructor is public", Modifier.isPublic(constructors[0].getModifiers()));
        check.end();
    }

    private static void checkConstants(Check check) throws IllegalAccessException {
        Map<String, Integer> seen = new TreeMap<>();
        for (Field field : PacketGate.class.getDeclaredFields()) {
            int modifiers = field.getModifiers();
            if (!Modifier.isPrivate(modifiers)) {
                check.holds(field.getName() + " is a public constant", Modifier.isPublic(modifiers)
                        && Modifier.isStatic(modifiers) && Modifier.isFinal(modifiers));
                seen.put(field.getName(), field.getInt(null));
            }
        }
        check.holds("constants " + seen, seen.equals(CONSTANTS));
    }

    private static void checkMethods(Check check) {
        Set<String> seen = new TreeSet<>();
        for (Method method : PacketGate.class.getDeclaredMethods()) {
            int modifiers = method.getModifiers();
            if (!Modifier.isPrivate(modifiers) && !method.isSynthetic()) {
                check.holds(method.getName() + " is public, not static, of int", Modifier.isPublic(modifiers)
                        && !Modifier.isStatic(modifiers) && method.getReturnType() == int.class);
                seen.add(signature(method));
            }
        }
        check.holds("methods " + seen, seen.equals(METHODS));
    }

    private static String signature(Method method) {
        StringBuilder text = new StringBuilder(method.getName()).append('(');
        for (Class<?> parameter : method.getParameterTypes()) {
            text.append(text.charAt(text.length() - 1) == '(' ? "" : ",").append(parameter.getName());
        }
        return text.append(')').toString();
    }
}
