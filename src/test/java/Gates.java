/** Gates to test with, and calls that come together. */
final class Gates {
    static final int SYN = 1;
    static final int ACK = 2;
    static final int FIN = 4;
    static final int RST = 8;

    private Gates() {
    }

    /** A new gate with these lines as its rules. */
    static PacketGate gate(String... lines) {
        PacketGate gate = new PacketGate();
        for (String line : lines) {
            if (install(gate, line) < 0) {
                throw new IllegalArgumentException("no rule: " + line);
            }
        }
        return gate;
    }

    static void type(PacketGate gate, String text) {
        for (int i = 0; i < text.length(); i++) {
            gate.type(text.charAt(i));
        }
    }

    static int install(PacketGate gate, String text) {
        type(gate, text);
        return gate.install();
    }

    static String ruleText(PacketGate gate, int n) {
        StringBuilder text = new StringBuilder();
        int c = gate.ruleText(n, 0);
        while (c > 0 && text.length() < 50) {
            text.append((char) c);
            c = gate.ruleText(n, text.length());
        }
        return text.toString();
    }

    static int out(PacketGate gate, int protocol, int flags, int address, int port, int to, int toPort) {
        gate.header(address, port, to, toPort);
        return gate.outward(protocol, flags);
    }

    static int in(PacketGate gate, int protocol, int flags, int address, int port, int publicPort) {
        gate.header(address, port, 200, publicPort);
        return gate.inward(protocol, flags);
    }

    static int unseal(PacketGate gate, int association, int sequence) {
        return gate.unseal(association, sequence, true, 1, 0);
    }

    /** Numbers that are not least .. greatest: beside the ends, far off, and such as a byte or a char would wrap. */
    static int[] notWithin(int least, int greatest) {
        return new int[] {least - 1, greatest + 1, least - 256, greatest + 256, least + 65536, greatest - 65536,
            Integer.MIN_VALUE, Integer.MIN_VALUE + least, Integer.MAX_VALUE};
    }

    /** A gate that permits all, with 7 port 80 exposed under 22 for each protocol. */
    static PacketGate exposing() {
        PacketGate gate = gate("Pb**,*,*");
        for (int protocol = 0; protocol <= 2; protocol++) {
            gate.expose(protocol, 22, 7, 80);
        }
        return gate;
    }

    /** A packet between 7 port 80, exposed under 22, and 150 port 9. */
    static int packet(PacketGate gate, boolean fromInside, int protocol, int flags) {
        return fromInside ? out(gate, protocol, flags, 7, 80, 150, 9) : in(gate, protocol, flags, 150, 9, 22);
    }

    /** An exposing gate with one stream, brought to a state from 1 to 5. */
    static PacketGate stream(boolean openedInside, boolean closedInside, int state) {
        PacketGate gate = exposing();
        packet(gate, openedInside, 0, SYN);
        if (state >= 2) {
            packet(gate, !openedInside, 0, SYN | ACK);
        }
        if (state >= 3) {
            packet(gate, openedInside, 0, ACK);
        }
        if (state >= 4) {
            packet(gate, closedInside, 0, FIN);
        }
        if (state >= 5) {
            packet(gate, !closedInside, 0, FIN);
        }
        return gate;
    }

    /** An exposing gate with one flow in a state from 1 to 7, opened from the inside. */
    static PacketGate flow(int state) {
        if (state <= 5) {
            return stream(true, true, state);
        }
        PacketGate gate = exposing();
        packet(gate, true, 2, 0);
        if (state == 7) {
            packet(gate, false, 2, 0);
        }
        return gate;
    }

    /** Datagrams from 5 port 5 to ports 0, 1, .. of 150 open so many flows, all with one mapping. */
    static void openFlows(PacketGate gate, int many) {
        for (int port = 0; port < many; port++) {
            out(gate, 1, 0, 5, 5, 150, port);
        }
    }

    /** A gate that seals all, with a header that can be unsealed. */
    static PacketGate sealing() {
        PacketGate gate = gate("Sb**,*,*");
        gate.header(250, 9, 4, 5);
        return gate;
    }
}
