/** Compares answers with those that are due, and ends a test with exit code 1 if one was wrong. */
final class Check {
    private static final int MOST_PRINTED = 20;

    private int calls = 0;
    private int wrong = 0;

    void due(String call, long got, long want) {
        calls++;
        if (got != want) {
            wrong++;
            if (wrong <= MOST_PRINTED) {
                System.out.println(call + " answered " + got + ", due is " + want);
            }
        }
    }

    void holds(String what, boolean holds) {
        due(what, holds ? 1 : 0, 1);
    }

    void end() {
        System.out.println(wrong + " of " + calls + " answers are not as due");
        if (wrong != 0 || calls == 0) {
            System.exit(1);
        }
    }

    /** A new gate with these lines as its rules. */
    static PacketGate gate(String... lines) {
        PacketGate gate = new PacketGate();
        for (String line : lines) {
            if (install(gate, line) < 0) {
                throw new IllegalArgumentException("no rule: " + line);
            }
        }
        return gate;
    }

    static void type(PacketGate gate, String text) {
        for (int i = 0; i < text.length(); i++) {
            gate.type(text.charAt(i));
        }
    }

    static int install(PacketGate gate, String text) {
        type(gate, text);
        return gate.install();
    }

    static String ruleText(PacketGate gate, int n) {
        StringBuilder text = new StringBuilder();
        int c = gate.ruleText(n, 0);
        while (c > 0) {
            text.append((char) c);
            c = gate.ruleText(n, text.length());
        }
        return text.toString();
    }

    static int out(PacketGate gate, int protocol, int flags, int address, int port, int to, int toPort) {
        gate.header(address, port, to, toPort);
        return gate.outward(protocol, flags);
    }

    static int in(PacketGate gate, int protocol, int flags, int address, int port, int publicPort) {
        gate.header(address, port, 200, publicPort);
        return gate.inward(protocol, flags);
    }

    void dueEmission(String after, PacketGate gate, int from, int fromPort, int to, int toPort) {
        due("emission(0) after " + after, gate.emission(0), from);
        due("emission(1) after " + after, gate.emission(1), fromPort);
        due("emission(2) after " + after, gate.emission(2), to);
        due("emission(3) after " + after, gate.emission(3), toPort);
    }
}
