/** A packet of a flow (for promises 9 and 10): every state, side and set of flags. */
public final class StatesTest {
    private static final int SYN = 1;
    private static final int ACK = 2;
    private static final int FIN = 4;
    private static final int RST = 8;
    private static final int ENDED = 0;
    private static final int BAD = -1;

    private final Check check = new Check();

    public static void main(String[] args) {
        StatesTest test = new StatesTest();
        for (int way = 0; way < 8; way++) {
            boolean openedInside = way % 2 == 0;
            boolean packetFromOpener = way / 2 % 2 == 0;
            boolean closedByOpener = way / 4 == 0;
            for (int flags = 0; flags <= 15; flags++) {
                for (int state = 1; state <= 5; state++) {
                    test.checkStream(openedInside, packetFromOpener, closedByOpener, state, flags);
                }
                test.checkOthers(openedInside, packetFromOpener, flags);
            }
        }
        test.checkClosingWithTheAnswer();
        test.checkTrafficWhileHalfClosed(true);
        test.checkTrafficWhileHalfClosed(false);
        test.check.end();
    }

    private static PacketGate gate() {
        PacketGate gate = Check.gate("Pb**,*,*");
        for (int protocol = 0; protocol <= 2; protocol++) {
            gate.expose(protocol, 22, 7, 80);
        }
        return gate;
    }

    private static int packet(PacketGate gate, boolean fromInside, int protocol, int flags) {
        return fromInside ? Check.out(gate, protocol, flags, 7, 80, 150, 9)
                : Check.in(gate, protocol, flags, 150, 9, 22);
    }

    /** A gate with one stream flow, brought to a state. */
    private PacketGate brought(boolean openedInside, boolean closedByOpener, int state) {
        PacketGate gate = gate();
        boolean closer = closedByOpener == openedInside;
        packet(gate, openedInside, 0, SYN);
        if (state >= 2) {
            packet(gate, !openedInside, 0, SYN | ACK);
        }
        if (state >= 3) {
            packet(gate, openedInside, 0, ACK);
        }
        if (state >= 4) {
            packet(gate, closer, 0, FIN);
        }
        if (state >= 5) {
            packet(gate, !closer, 0, FIN);
        }
        check.due("brought to state " + state, gate.flow(0, 0), state);
        return gate;
    }

    private void checkStream(boolean openedInside, boolean fromOpener, boolean closedByOpener, int state, int flags) {
        PacketGate gate = brought(openedInside, closedByOpener, state);
        gate.tick(2);
        int want = stateAfter(state, fromOpener, fromOpener != closedByOpener, flags);
        boolean fromInside = fromOpener == openedInside;
        String call = "state " + state + " flags " + flags + " from opener " + fromOpener + " opened inside "
                + openedInside;
        check.due(call, packet(gate, fromInside, 0, flags), want == BAD ? PacketGate.STATE : PacketGate.PASSED);
        if (want == ENDED) {
            check.due(call + ": flows", gate.count(1), 0);
        } else {
            check.due(call + ": state afterwards", gate.flow(0, 0), want == BAD ? state : want);
            check.due(call + ": LAST", gate.flow(0, 7), want == BAD ? 0 : 2);
        }
        if (want != BAD && fromInside) {
            check.dueEmission(call, gate, 200, 22, 150, 9);
        } else if (want != BAD) {
            check.dueEmission(call, gate, 150, 9, 7, 80);
        }
    }

    private static int stateAfter(int state, boolean fromOpener, boolean fromSideStillOpen, int flags) {
        boolean syn = (flags & SYN) != 0;
        boolean ack = (flags & ACK) != 0;
        boolean fin = (flags & FIN) != 0;
        if ((flags & RST) != 0) {
            return ENDED;
        }
        switch (state) {
            case 1:
                if (!fromOpener && syn && ack && !fin) {
                    return 2;
                }
                return fromOpener && syn && !ack && !fin ? 1 : BAD;
            case 2:
                if (fromOpener && ack && !syn) {
                    return fin ? 4 : 3;
                }
                return !fromOpener && syn && ack && !fin ? 2 : BAD;
            case 3:
                return syn ? BAD : fin ? 4 : 3;
            case 4:
                return syn ? BAD : fin && fromSideStillOpen ? 5 : 4;
            default:
                return syn ? BAD : 5;
        }
    }

    private void checkOthers(boolean openedInside, boolean fromOpener, int flags) {
        for (int protocol = 1; protocol <= 2; protocol++) {
            PacketGate gate = gate();
            packet(gate, openedInside, protocol, flags);
            check.due("one-sided", gate.flow(0, 0), 6);
            gate.tick(2);
            check.due("a packet", packet(gate, fromOpener == openedInside, protocol, flags), PacketGate.PASSED);
            check.due("state of protocol " + protocol, gate.flow(0, 0), fromOpener ? 6 : 7);
            check.due("LAST", gate.flow(0, 7), 2);
            packet(gate, !openedInside, protocol, flags);
            packet(gate, openedInside, protocol, flags);
            check.due("two-sided it stays", gate.flow(0, 0), 7);
        }
    }

    private void checkTrafficWhileHalfClosed(boolean closedByOpener) {
        PacketGate gate = brought(true, closedByOpener, 4);
        packet(gate, !closedByOpener, 0, ACK);
        packet(gate, closedByOpener, 0, ACK);
        packet(gate, !closedByOpener, 0, 0);
        check.due("traffic without FIN", gate.flow(0, 0), 4);
        packet(gate, closedByOpener, 0, FIN);
        check.due("FIN of the side that has closed", gate.flow(0, 0), 4);
        packet(gate, !closedByOpener, 0, FIN | ACK);
        check.due("FIN of the side that has not", gate.flow(0, 0), 5);
    }

    private void checkClosingWithTheAnswer() {
        PacketGate gate = brought(true, true, 2);
        packet(gate, true, 0, ACK | FIN);
        check.due("ACK and FIN in state 2", gate.flow(0, 0), 4);
        packet(gate, true, 0, FIN);
        check.due("FIN of the side that has closed", gate.flow(0, 0), 4);
        packet(gate, false, 0, FIN);
        check.due("FIN of the other side", gate.flow(0, 0), 5);
    }
}
