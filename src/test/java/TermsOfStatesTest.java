/** Terms: what a packet of a flow does to it, for every state, side and set of flags. */
public final class TermsOfStatesTest {
    private static final int ENDED = 0;
    private static final int BAD = -1;

    public static void main(String[] args) {
        Check check = new Check("Terms");
        check.sentence("Not a stream: from the opening side nothing changes, from the other side STATE 7.",
                TermsOfStatesTest::notAStream);
        check.sentence("A stream: RST: the flow ends.", TermsOfStatesTest::reset);
        check.sentence("Else in STATE 1: SYN and ACK and no FIN from the other side: STATE 2; SYN alone from the"
                + " opening side: nothing changes; else it's bad.", c -> inState(c, 1));
        check.sentence("STATE 2: ACK and no SYN from the opening side: STATE 3, and then as in STATE 3; SYN and ACK"
                + " and no FIN from the other side: nothing changes; else bad.", c -> inState(c, 2));
        check.sentence("STATE 3, and then as in STATE 3;", TermsOfStatesTest::closingWithTheAnswer);
        check.sentence("STATE 3: SYN: bad; FIN: STATE 4, this side has closed.", c -> inState(c, 3));
        check.sentence("STATE 4: SYN: bad; FIN from the side that has not closed: STATE 5.", c -> inState(c, 4));
        check.sentence("FIN from the side that has not closed: STATE 5.", TermsOfStatesTest::halfClosed);
        check.sentence("STATE 5: SYN: bad.", c -> inState(c, 5));
        check.sentence("A bad packet is not let through: STATE, and the flow is as before.",
                TermsOfStatesTest::badPacketChangesNothing);
        check.sentence("Any other is let through, and LAST becomes the TIME now.", TermsOfStatesTest::lastBecomesTime);
        check.end();
    }

    private static void notAStream(Check check) {
        for (int way = 0; way < 32; way++) {
            int protocol = 1 + way % 2;
            boolean openedInside = way / 2 % 2 == 0;
            int flags = way / 4 * 2 + way % 2;
            PacketGate gate = Gates.exposing();
            Gates.packet(gate, openedInside, protocol, flags);
            check.due("opened: state", gate.flow(0, 0), 6);
            check.due("from the opening side", Gates.packet(gate, openedInside, protocol, flags), PacketGate.PASSED);
            check.due("its state", gate.flow(0, 0), 6);
            check.due("from the other side", Gates.packet(gate, !openedInside, protocol, flags), PacketGate.PASSED);
            check.due("its state", gate.flow(0, 0), 7);
            Gates.packet(gate, openedInside, protocol, flags);
            check.due("from the opening side again: state", gate.flow(0, 0), 7);
            Gates.packet(gate, !openedInside, protocol, flags);
            check.due("from the other side again: state", gate.flow(0, 0), 7);
        }
    }

    private static void reset(Check check) {
        for (int state = 1; state <= 5; state++) {
            for (int flags = Gates.RST; flags <= 15; flags++) {
                for (int way = 0; way < 4; way++) {
                    boolean fromInside = way / 2 == 0;
                    PacketGate gate = Gates.stream(way % 2 == 0, true, state);
                    check.due("flags " + flags + " in state " + state, Gates.packet(gate, fromInside, 0, flags),
                            PacketGate.PASSED);
                    check.due("flows", gate.count(1), 0);
                    dueEmission(check, gate, fromInside);
                    check.due("a packet thereafter", Gates.packet(gate, fromInside, 0, Gates.ACK), PacketGate.STATE);
                }
            }
        }
    }

    private static void dueEmission(Check check, PacketGate gate, boolean fromInside) {
        if (fromInside) {
            check.dueEmission("it", gate, 200, 22, 150, 9);
        } else {
            check.dueEmission("it", gate, 150, 9, 7, 80);
        }
    }

    /** Every set of flags from both sides, with flows of both sides that either side has closed first. */
    private static void inState(Check check, int state) {
        for (int way = 0; way < 8; way++) {
            boolean openedInside = way % 2 == 0;
            boolean fromInside = way / 2 % 2 == 0;
            boolean closedInside = way / 4 == 0;
            for (int flags = 0; flags <= 15; flags++) {
                PacketGate gate = Gates.stream(openedInside, closedInside, state);
                check.due("brought to its state", gate.flow(0, 0), state);
                gate.tick(2);
                int want = stateAfter(state, fromInside == openedInside, fromInside != closedInside, flags);
                String call = "state " + state + " flags " + flags + " way " + way;
                check.due(call, Gates.packet(gate, fromInside, 0, flags),
                        want == BAD ? PacketGate.STATE : PacketGate.PASSED);
                if (want != BAD) {
                    dueEmission(check, gate, fromInside);
                }
                if (want == ENDED) {
                    check.due(call + ": flows", gate.count(1), 0);
                } else {
                    check.dueFlow(gate, 0, want == BAD ? state : want, 0, 7, 80, 150, 9, 22, want == BAD ? 0 : 2);
                }
            }
        }
    }

    private static int stateAfter(int state, boolean fromOpener, boolean fromSideStillOpen, int flags) {
        boolean syn = (flags & Gates.SYN) != 0;
        boolean ack = (flags & Gates.ACK) != 0;
        boolean fin = (flags & Gates.FIN) != 0;
        if ((flags & Gates.RST) != 0) {
            return ENDED;
        }
        switch (state) {
            case 1:
                if (!fromOpener && syn && ack && !fin) {
                    return 2;
                }
                return fromOpener && syn && !ack && !fin ? 1 : BAD;
            case 2:
                if (fromOpener && ack && !syn) {
                    return fin ? 4 : 3;
                }
                return !fromOpener && syn && ack && !fin ? 2 : BAD;
            case 3:
                return syn ? BAD : fin ? 4 : 3;
            case 4:
                return syn ? BAD : fin && fromSideStillOpen ? 5 : 4;
            default:
                return syn ? BAD : 5;
        }
    }

    private static void closingWithTheAnswer(Check check) {
        for (int side = 0; side <= 1; side++) {
            boolean opener = side == 0;
            PacketGate gate = Gates.stream(opener, true, 2);
            Gates.packet(gate, opener, 0, Gates.ACK | Gates.FIN);
            check.due("ACK and FIN in state 2", gate.flow(0, 0), 4);
            Gates.packet(gate, opener, 0, Gates.FIN);
            check.due("FIN of the side that has closed", gate.flow(0, 0), 4);
            Gates.packet(gate, !opener, 0, Gates.FIN);
            check.due("FIN of the other side", gate.flow(0, 0), 5);
        }
    }

    private static void halfClosed(Check check) {
        for (int way = 0; way < 4; way++) {
            boolean closed = way / 2 == 0;
            PacketGate gate = Gates.stream(way % 2 == 0, closed, 4);
            Gates.packet(gate, !closed, 0, Gates.ACK);
            Gates.packet(gate, closed, 0, Gates.ACK);
            Gates.packet(gate, !closed, 0, 0);
            check.due("traffic without FIN", gate.flow(0, 0), 4);
            Gates.packet(gate, closed, 0, Gates.FIN);
            Gates.packet(gate, closed, 0, Gates.FIN | Gates.ACK);
            check.due("FIN of the side that has closed", gate.flow(0, 0), 4);
            check.due("SYN and FIN of the other", Gates.packet(gate, !closed, 0, Gates.SYN | Gates.FIN),
                    PacketGate.STATE);
            Gates.packet(gate, !closed, 0, Gates.FIN | Gates.ACK);
            check.due("FIN of the side that has not", gate.flow(0, 0), 5);
        }
    }

    private static void badPacketChangesNothing(Check check) {
        for (int state = 1; state <= 5; state++) {
            for (int way = 0; way < 4; way++) {
                PacketGate gate = Gates.stream(way % 2 == 0, true, state);
                gate.tick(3);
                String before = Look.at(gate, 5);
                check.due("SYN and FIN in state " + state,
                        Gates.packet(gate, way / 2 == 0, 0, Gates.SYN | Gates.FIN), PacketGate.STATE);
                check.dueText("what is seen", Look.at(gate, 5), before);
                check.due("not let through", gate.count(5), 1);
            }
        }
    }

    private static void lastBecomesTime(Check check) {
        int[] flags = {Gates.SYN, Gates.SYN | Gates.ACK, Gates.ACK, Gates.ACK, Gates.ACK};
        boolean[] fromOpener = {true, false, true, true, true};
        for (int state = 1; state <= 5; state++) {
            PacketGate gate = Gates.flow(state);
            gate.tick(4);
            check.due("nothing changes but LAST",
                    Gates.packet(gate, fromOpener[state - 1], 0, flags[state - 1]), PacketGate.PASSED);
            check.due("the state", gate.flow(0, 0), state);
            check.due("LAST", gate.flow(0, 7), 4);
        }
        for (int state = 6; state <= 7; state++) {
            PacketGate gate = Gates.flow(state);
            gate.tick(4);
            Gates.packet(gate, true, 2, 0);
            check.due("the state", gate.flow(0, 0), state);
            check.due("LAST", gate.flow(0, 7), 4);
        }
    }
}
