import java.lang.reflect.Constructor;
import java.lang.reflect.Field;
import java.lang.reflect.Member;
import java.lang.reflect.Method;
import java.lang.reflect.Modifier;
import java.util.Set;
import java.util.TreeSet;

/** The public face: the document's constants, constructor and methods, and nothing else that others can see. */
public final class FaceTest {
    private static final String[] CONSTANTS = {
        "PASSED = 0", "SEALED = 1", "REFUSED = -1", "SYNTAX = -2", "FULL = -3", "DROPPED = -4", "MARTIAN = -5",
        "STATE = -6", "NO_ROOM = -7", "REPLAY = -8", "FORGED = -9", "UNKNOWN = -10", "EXHAUSTED = -11"};
    private static final String[] METHODS = {
        "type(int c)", "install()", "withdraw(int n)", "ruleText(int n, int i)",
        "expose(int protocol, int publicPort, int address, int port)", "hide(int protocol, int publicPort)",
        "header(int source, int sourcePort, int target, int targetPort)", "outward(int protocol, int flags)",
        "inward(int protocol, int flags)", "report(int protocol)",
        "unseal(int association, int sequence, boolean authentic, int protocol, int flags)", "rekey()", "tick(int n)",
        "emission(int field)", "flow(int i, int field)", "count(int what)"};

    public static void main(String[] args) {
        Check check = new Check("The public face");
        check.sentence("public final class PacketGate {", FaceTest::publicAndFinal);
        for (String constant : CONSTANTS) {
            check.sentence("public static final int " + constant + ";", c -> hasConstant(c, constant));
        }
        check.sentence("public PacketGate();", FaceTest::oneConstructor);
        for (String method : METHODS) {
            check.sentence("public int " + method + ";", c -> hasMethod(c, method));
        }
        check.sentence("public final class PacketGate {", FaceTest::nothingElseIsSeen);
        check.end();
    }

    private static void publicAndFinal(Check check) {
        int modifiers = PacketGate.class.getModifiers();
        check.holds("public", Modifier.isPublic(modifiers));
        check.holds("final", Modifier.isFinal(modifiers));
        check.dueText("the class above it", PacketGate.class.getSuperclass().getName(), "java.lang.Object");
        check.due("interfaces", PacketGate.class.getInterfaces().length, 0);
    }

    private static void hasConstant(Check check, String constant) {
        Set<String> seen = new TreeSet<>();
        for (Field field : PacketGate.class.getFields()) {
            int modifiers = field.getModifiers();
            if (Modifier.isStatic(modifiers) && Modifier.isFinal(modifiers) && field.getType() == int.class) {
                seen.add(field.getName() + " = " + valueOf(field));
            }
        }
        check.holds(constant + " among " + seen, seen.contains(constant));
    }

    private static int valueOf(Field field) {
        try {
            return field.getInt(null);
        } catch (IllegalAccessException e) {
            throw new IllegalStateException(e);
        }
    }

    private static void oneConstructor(Check check) {
        Constructor<?>[] constructors = PacketGate.class.getDeclaredConstructors();
        check.due("constructors", constructors.length, 1);
        check.due("its parameters", constructors[0].getParameterCount(), 0);
        check.holds("public", Modifier.isPublic(constructors[0].getModifiers()));
    }

    private static void hasMethod(Check check, String method) {
        Set<String> seen = new TreeSet<>();
        for (Method one : PacketGate.class.getDeclaredMethods()) {
            if (Modifier.isPublic(one.getModifiers()) && !Modifier.isStatic(one.getModifiers())
                    && one.getReturnType() == int.class) {
                seen.add(signature(one));
            }
        }
        String want = method.replaceAll(" \\w+(?=[,)])", "");
        check.holds(want + " among " + seen, seen.contains(want));
    }

    private static String signature(Method method) {
        StringBuilder text = new StringBuilder(method.getName()).append('(');
        for (Class<?> parameter : method.getParameterTypes()) {
            text.append(text.charAt(text.length() - 1) == '(' ? "" : ", ").append(parameter.getName());
        }
        return text.append(')').toString();
    }

    private static void nothingElseIsSeen(Check check) {
        check.due("fields that are not private", notPrivate(PacketGate.class.getDeclaredFields()), CONSTANTS.length);
        check.due("methods that are not private", notPrivate(PacketGate.class.getDeclaredMethods()), METHODS.length);
        check.due("public classes inside", PacketGate.class.getClasses().length, 0);
    }

    private static int notPrivate(Member[] members) {
        int many = 0;
        for (Member member : members) {
            if (!Modifier.isPrivate(member.getModifiers()) && !member.isSynthetic()) {
                many++;
            }
        }
        return many;
    }
}
