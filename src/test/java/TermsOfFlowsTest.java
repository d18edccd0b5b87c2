/** Terms: flows, their states' limits, and how they are opened. */
public final class TermsOfFlowsTest {
    private static final int[] LIMITS = {0, 10, 10, 60, 30, 5, 10, 30};

    public static void main(String[] args) {
        Check check = new Check("Terms");
        check.sentence("FLOWS (at most 16)", TermsOfFlowsTest::atMost16);
        check.sentence("a STATE and the time LAST of their latest packet.", TermsOfFlowsTest::lastIsOfTheLatestPacket);
        check.sentence("No two have protocol and both endpoints alike.", TermsOfFlowsTest::noTwoAlike);
        check.sentence("A flow ends when TIME less LAST comes to its STATE's LIMIT.", TermsOfFlowsTest::endsAtItsLimit);
        check.sentence("1 begun 10,", c -> limit(c, 1));
        check.sentence("2 answered 10,", c -> limit(c, 2));
        check.sentence("3 open 60,", c -> limit(c, 3));
        check.sentence("4 half closed 30,", c -> limit(c, 4));
        check.sentence("5 closed 5 (streams)", c -> limit(c, 5));
        check.sentence("6 one-sided 10,", c -> limit(c, 6));
        check.sentence("7 two-sided 30 (others).", c -> limit(c, 7));
        check.sentence("OPENING a flow by a packet that belongs to none: a stream's must have SYN alone (else STATE).",
                TermsOfFlowsTest::streamOpensWithSynAlone);
        check.sentence("There are 16 flows: NO_ROOM.", TermsOfFlowsTest::noRoomAt16Flows);
        check.sentence("From the inside: the mapping of the endpoint is taken if there is one",
                TermsOfFlowsTest::mappingIsTaken);
        check.sentence("else one is made;", TermsOfFlowsTest::mappingIsMade);
        check.sentence("no public port is left: NO_ROOM.", TermsOfFlowsTest::noPublicPortLeft);
        check.sentence("The flow is in STATE 1 or 6.", TermsOfFlowsTest::stateAtFirst);
        check.end();
    }

    private static void atMost16(Check check) {
        PacketGate gate = Gates.gate("Po**,*,*");
        for (int port = 0; port < 16; port++) {
            check.due("flow " + port, Gates.out(gate, 1, 0, 5, 5, 150, port), PacketGate.PASSED);
            check.due("flows", gate.count(1), port + 1);
        }
        check.due("a 17th", Gates.out(gate, 1, 0, 5, 5, 150, 16), PacketGate.NO_ROOM);
        check.due("flows", gate.count(1), 16);
        check.due("the last", gate.flow(15, 5), 15);
        check.due("none behind it", gate.flow(16, 5), PacketGate.REFUSED);
    }

    private static void lastIsOfTheLatestPacket(Check check) {
        PacketGate gate = Gates.exposing();
        gate.tick(3);
        Gates.packet(gate, false, 1, 0);
        check.due("LAST after opening", gate.flow(0, 7), 3);
        gate.tick(4);
        check.due("LAST without a packet", gate.flow(0, 7), 3);
        Gates.packet(gate, false, 1, 0);
        check.due("LAST after one from the opening side", gate.flow(0, 7), 7);
        gate.tick(9);
        Gates.packet(gate, true, 1, 0);
        check.due("LAST after one from the other side", gate.flow(0, 7), 16);
    }

    private static void noTwoAlike(Check check) {
        for (int side = 0; side <= 1; side++) {
            PacketGate gate = Gates.exposing();
            Gates.packet(gate, side == 0, 1, 0);
            Gates.packet(gate, side == 0, 1, 0);
            Gates.packet(gate, side != 0, 1, 0);
            check.due("flows between two endpoints", gate.count(1), 1);
            Gates.packet(gate, side == 0, 2, 0);
            check.due("flows with that of another protocol", gate.count(1), 2);
            Gates.out(gate, 1, 0, 7, 81, 150, 9);
            check.due("flows with another INSIDE port", gate.count(1), 3);
            Gates.out(gate, 1, 0, 8, 80, 150, 9);
            check.due("flows with another INSIDE address", gate.count(1), 4);
            Gates.in(gate, 1, 0, 150, 10, 22);
            check.due("flows with another OUTSIDE port", gate.count(1), 5);
            Gates.in(gate, 1, 0, 151, 9, 22);
            check.due("flows with another OUTSIDE address", gate.count(1), 6);
        }
    }

    private static void endsAtItsLimit(Check check) {
        PacketGate gate = Gates.flow(6);
        for (int n = 0; n < 5; n++) {
            gate.tick(9);
            check.due("a packet in time", Gates.packet(gate, true, 2, 0), PacketGate.PASSED);
            check.due("flows", gate.count(1), 1);
        }
        gate.tick(10);
        check.due("flows when none came", gate.count(1), 0);
        PacketGate bad = Gates.stream(true, true, 1);
        bad.tick(9);
        check.due("a bad packet", Gates.packet(bad, true, 0, Gates.ACK), PacketGate.STATE);
        bad.tick(1);
        check.due("renews nothing", bad.count(1), 0);
        PacketGate shorter = Gates.stream(true, true, 4);
        shorter.tick(20);
        Gates.packet(shorter, false, 0, Gates.FIN);
        shorter.tick(4);
        check.due("a new state's limit counts from the new LAST", shorter.count(1), 1);
        shorter.tick(1);
        check.due("and ends it", shorter.count(1), 0);
    }

    private static void limit(Check check, int state) {
        for (int start = 0; start <= 13; start += 13) {
            PacketGate gate = Gates.flow(state);
            check.due("state", gate.flow(0, 0), state);
            if (start > 0) {
                gate = later(state, start);
            }
            gate.tick(LIMITS[state] - 1);
            check.due("state " + state + " one before its limit", gate.count(1), 1);
            gate.tick(1);
            check.due("state " + state + " at its limit", gate.count(1), 0);
        }
        PacketGate far = Gates.flow(state);
        far.tick(LIMITS[state] + 1);
        check.due("state " + state + " behind its limit", far.count(1), 0);
        PacketGate farther = Gates.flow(state);
        farther.tick(100);
        check.due("state " + state + " far behind its limit", farther.count(1), 0);
    }

    /** The flow of a state once more, opened from the outside when some time has gone by. */
    private static PacketGate later(int state, int start) {
        PacketGate gate = Gates.exposing();
        gate.tick(start);
        if (state >= 6) {
            Gates.packet(gate, false, 1, 0);
            if (state == 7) {
                Gates.packet(gate, true, 1, 0);
            }
            return gate;
        }
        int[] flags = {Gates.SYN, Gates.SYN | Gates.ACK, Gates.ACK, Gates.FIN, Gates.FIN};
        for (int step = 0; step < state; step++) {
            Gates.packet(gate, step % 2 == 1, 0, flags[step]);
        }
        return gate;
    }

    private static void streamOpensWithSynAlone(Check check) {
        for (int flags = 0; flags <= 15; flags++) {
            for (int side = 0; side <= 1; side++) {
                PacketGate gate = Gates.exposing();
                check.due("a stream opened with " + flags, Gates.packet(gate, side == 0, 0, flags),
                        flags == 1 ? PacketGate.PASSED : PacketGate.STATE);
                check.due("flows", gate.count(1), flags == 1 ? 1 : 0);
            }
        }
    }

    private static void noRoomAt16Flows(Check check) {
        PacketGate gate = Gates.exposing();
        Gates.openFlows(gate, 15);
        check.due("a 16th from the outside", Gates.packet(gate, false, 1, 0), PacketGate.PASSED);
        for (int protocol = 0; protocol <= 2; protocol++) {
            check.due("a 17th from the inside", Gates.out(gate, protocol, Gates.SYN, 9, 9, 160, 1), PacketGate.NO_ROOM);
            check.due("a 17th from the outside", Gates.in(gate, protocol, Gates.SYN, 160, 1, 22), PacketGate.NO_ROOM);
        }
        check.due("a 17th with a mapping", Gates.out(gate, 1, 0, 5, 5, 160, 1), PacketGate.NO_ROOM);
        check.due("no mapping was made", gate.count(3), 1);
        check.due("a packet of a flow", Gates.packet(gate, true, 1, 0), PacketGate.PASSED);
        gate.tick(10);
        check.due("when some have ended", Gates.out(gate, 1, 0, 9, 9, 160, 1), PacketGate.PASSED);
    }

    private static void mappingIsTaken(Check check) {
        PacketGate gate = Gates.exposing();
        Gates.out(gate, 1, 0, 7, 80, 150, 1);
        check.due("an exposed one", gate.flow(0, 6), 22);
        Gates.out(gate, 1, 0, 7, 81, 150, 1);
        Gates.out(gate, 1, 0, 7, 81, 151, 1);
        check.due("one made for another flow", gate.flow(2, 6), 100);
        check.due("mappings made", gate.count(3), 1);
    }

    private static void mappingIsMade(Check check) {
        PacketGate gate = Gates.exposing();
        Gates.out(gate, 1, 0, 7, 81, 150, 1);
        check.due("for another port", gate.flow(0, 6), 100);
        Gates.out(gate, 1, 0, 8, 80, 150, 1);
        check.due("for another address", gate.flow(1, 6), 101);
        Gates.out(gate, 2, 0, 8, 80, 150, 1);
        check.due("for another protocol", gate.flow(2, 6), 100);
        check.due("mappings made", gate.count(3), 3);
    }

    private static void noPublicPortLeft(Check check) {
        PacketGate gate = Gates.exposing();
        for (int port = 0; port < 12; port++) {
            check.due("endpoint " + port, Gates.out(gate, 1, 0, 3, port, 130, 5), PacketGate.PASSED);
        }
        check.due("the 13th", Gates.out(gate, 1, 0, 3, 12, 130, 5), PacketGate.NO_ROOM);
        check.due("flows", gate.count(1), 12);
        check.due("mappings made", gate.count(3), 12);
        check.due("one with a mapping", Gates.out(gate, 1, 0, 3, 11, 131, 5), PacketGate.PASSED);
        check.due("an exposed one", Gates.out(gate, 1, 0, 7, 80, 131, 5), PacketGate.PASSED);
        check.due("one of another protocol", Gates.out(gate, 2, 0, 3, 12, 130, 5), PacketGate.PASSED);
        check.due("from the outside none is needed", Gates.packet(gate, false, 1, 0), PacketGate.PASSED);
        check.due("flows", gate.count(1), 16);
    }

    private static void stateAtFirst(Check check) {
        for (int protocol = 0; protocol <= 2; protocol++) {
            for (int side = 0; side <= 1; side++) {
                PacketGate gate = Gates.exposing();
                gate.tick(6);
                Gates.packet(gate, side == 0, protocol, Gates.SYN);
                check.dueFlow(gate, 0, protocol == 0 ? 1 : 6, protocol, 7, 80, 150, 9, 22, 6);
            }
        }
    }
}
