/** Promise 10: inward. What a packet does to its flow is in TermsOfStatesTest, what opens one in TermsOfFlowsTest. */
public final class Promise10InwardTest {
    public static void main(String[] args) {
        Check check = new Check("Promise 10: inward");
        check.sentence("protocol or flags out of range: REFUSED.", Promise10InwardTest::outOfRange);
        check.sentence("The source isn't OUTSIDE or the target isn't PUBLIC: MARTIAN.", Promise10InwardTest::martian);
        check.sentence("No mapping of the protocol has the target port: DROPPED.", Promise10InwardTest::noMapping);
        check.sentence("It belongs to the flow of the protocol between the mapping's endpoint and the source, if there is"
                + " one.", Promise10InwardTest::belongsToAFlow);
        check.sentence("Else by the POLICY (inward), with the mapping's endpoint as the target",
                Promise10InwardTest::policyForTheEndpoint);
        check.sentence("drop or seal: DROPPED", Promise10InwardTest::dropped);
        check.sentence("permit: it opens a flow with that mapping.", Promise10InwardTest::opensAFlow);
        check.sentence("permit: it opens a flow with that mapping.", Promise10InwardTest::opensTheSixteenthButNoMore);
        check.sentence("permit: it opens a flow with that mapping.", Promise10InwardTest::mappingMadeForAFlowHolds);
        check.sentence("Let through: PASSED, the EMISSION is from the source to the mapping's endpoint.",
                Promise10InwardTest::emission);
        check.end();
    }

    private static void outOfRange(Check check) {
        PacketGate gate = Gates.exposing();
        gate.header(150, 1, 200, 22);
        for (int protocol : Gates.notWithin(0, 2)) {
            check.due("protocol " + protocol, gate.inward(protocol, 1), PacketGate.REFUSED);
        }
        for (int flags : Gates.notWithin(0, 15)) {
            for (int protocol = 0; protocol <= 2; protocol++) {
                check.due("flags " + flags, gate.inward(protocol, flags), PacketGate.REFUSED);
            }
        }
        check.due("they are not counted", gate.count(4) + gate.count(5), 0);
        check.due("flows", gate.count(1), 0);
        check.due("the least", gate.inward(0, 0), PacketGate.STATE);
        check.due("the greatest", gate.inward(2, 15), PacketGate.PASSED);
    }

    private static void martian(Check check) {
        for (int address = 0; address <= 255; address++) {
            PacketGate gate = Gates.exposing();
            check.due("inward from " + address, Gates.in(gate, 1, 0, address, 1, 22),
                    address >= 128 && address != 200 ? PacketGate.PASSED : PacketGate.MARTIAN);
            gate.header(150, 2, address, 22);
            check.due("inward to " + address, gate.inward(1, 0),
                    address == 200 ? PacketGate.PASSED : PacketGate.MARTIAN);
        }
    }

    private static void noMapping(Check check) {
        PacketGate gate = Gates.gate("Pi**,*,*");
        check.due("without any", Gates.in(gate, 1, 0, 150, 1, 22), PacketGate.DROPPED);
        gate.expose(1, 22, 7, 80);
        check.due("another public port", Gates.in(gate, 1, 0, 150, 1, 23), PacketGate.DROPPED);
        check.due("the endpoint's own port", Gates.in(gate, 1, 0, 150, 1, 80), PacketGate.DROPPED);
        check.due("another protocol", Gates.in(gate, 2, 0, 150, 1, 22), PacketGate.DROPPED);
        check.due("flows", gate.count(1), 0);
        check.due("not let through", gate.count(5), 4);
        Gates.in(gate, 1, 0, 150, 1, 22);
        gate.hide(1, 22);
        check.due("a hidden one", Gates.in(gate, 1, 0, 150, 1, 22), PacketGate.DROPPED);
    }

    private static void belongsToAFlow(Check check) {
        PacketGate gate = Gates.gate("Pou*,*,*");
        Gates.out(gate, 1, 0, 5, 5, 150, 80);
        check.due("an answer though nothing may come in", Gates.in(gate, 1, 0, 150, 80, 100), PacketGate.PASSED);
        check.due("the flow's state", gate.flow(0, 0), 7);
        check.due("from another port", Gates.in(gate, 1, 0, 150, 81, 100), PacketGate.DROPPED);
        check.due("from another address", Gates.in(gate, 1, 0, 151, 80, 100), PacketGate.DROPPED);
        check.due("to another public port", Gates.in(gate, 1, 0, 150, 80, 101), PacketGate.DROPPED);
        check.due("of another protocol", Gates.in(gate, 2, 0, 150, 80, 100), PacketGate.DROPPED);
        Gates.out(gate, 1, 0, 5, 6, 150, 80);
        check.due("to the second flow's port", Gates.in(gate, 1, 0, 150, 80, 101), PacketGate.PASSED);
        check.due("the second flow's state", gate.flow(1, 0), 7);
        check.due("flows", gate.count(1), 2);
    }

    private static void policy(Check check, String line, int want) {
        PacketGate gate = Gates.gate(line);
        gate.expose(1, 22, 7, 80);
        check.due(line, Gates.in(gate, 1, 0, 150, 9, 22), want);
        check.due(line + ": flows", gate.count(1), want == PacketGate.PASSED ? 1 : 0);
    }

    private static void policyForTheEndpoint(Check check) {
        policy(check, "Piu150,7,80", PacketGate.PASSED);
        policy(check, "Pbu150,7,80", PacketGate.PASSED);
        policy(check, "Pi*150,7,80", PacketGate.PASSED);
        policy(check, "Pou150,7,80", PacketGate.DROPPED);
        policy(check, "Pit150,7,80", PacketGate.DROPPED);
        policy(check, "Piu151,7,80", PacketGate.DROPPED);
        policy(check, "Piu150,200,80", PacketGate.DROPPED);
        policy(check, "Piu150,7,22", PacketGate.DROPPED);
        policy(check, "Piu150,200,22", PacketGate.DROPPED);
    }

    private static void dropped(Check check) {
        policy(check, "Diu*,*,*", PacketGate.DROPPED);
        policy(check, "Siu*,*,*", PacketGate.DROPPED);
        policy(check, "Sbu*,*,*", PacketGate.DROPPED);
        PacketGate gate = Gates.gate("Siu*,*,*", "Pi**,*,*");
        gate.expose(1, 22, 7, 80);
        Gates.in(gate, 1, 0, 150, 9, 22);
        check.due("SEQUENCE", gate.count(8), 0);
        check.due("emission", gate.emission(0), PacketGate.REFUSED);
        check.due("not let through", gate.count(5), 1);
    }

    private static void opensAFlow(Check check) {
        PacketGate gate = Gates.exposing();
        gate.tick(4);
        check.due("inward", Gates.in(gate, 0, 1, 150, 9, 22), PacketGate.PASSED);
        check.dueFlow(gate, 0, 1, 0, 7, 80, 150, 9, 22, 4);
        check.due("a stream without SYN", Gates.in(gate, 0, 2, 151, 9, 22), PacketGate.STATE);
        check.due("flows", gate.count(1), 1);
        check.due("exposed", gate.count(2), 3);
        check.due("other mappings", gate.count(3), 0);
    }

    private static void opensTheSixteenthButNoMore(Check check) {
        PacketGate gate = Gates.exposing();
        for (int port = 0; port < 16; port++) {
            check.due("flow " + port, Gates.in(gate, 1, 0, 150, port, 22), PacketGate.PASSED);
        }
        check.due("the 17th", Gates.in(gate, 1, 0, 150, 16, 22), PacketGate.NO_ROOM);
        check.due("a packet of a flow", Gates.in(gate, 1, 0, 150, 15, 22), PacketGate.PASSED);
        check.due("flows", gate.count(1), 16);
    }

    private static void mappingMadeForAFlowHolds(Check check) {
        PacketGate gate = Gates.gate("Pou*,*,*", "Piu*,5,5");
        Gates.out(gate, 1, 0, 5, 5, 150, 80);
        check.due("another may use the mapping", Gates.in(gate, 1, 0, 151, 80, 100), PacketGate.PASSED);
        check.due("its public port", gate.flow(1, 6), 100);
        check.due("mappings", gate.count(3), 1);
        gate.tick(9);
        Gates.in(gate, 1, 0, 151, 80, 100);
        gate.tick(1);
        check.due("the first flow has ended", gate.count(1), 1);
        check.due("the mapping has a flow still", gate.count(3), 1);
        check.due("a packet there", Gates.in(gate, 1, 0, 152, 80, 100), PacketGate.PASSED);
        gate.tick(10);
        check.due("the mapping is gone", gate.count(3), 0);
        check.due("a packet there", Gates.in(gate, 1, 0, 151, 80, 100), PacketGate.DROPPED);
    }

    private static void emission(Check check) {
        PacketGate gate = Gates.exposing();
        Gates.in(gate, 0, 1, 150, 9, 22);
        check.dueEmission("opening", gate, 150, 9, 7, 80);
        Gates.out(gate, 1, 0, 127, 255, 255, 255);
        Gates.in(gate, 1, 0, 255, 255, 100);
        check.dueEmission("an answer", gate, 255, 255, 127, 255);
        check.due("a bad packet", Gates.in(gate, 0, 2, 150, 9, 22), PacketGate.STATE);
        check.dueEmission("a bad packet", gate, 255, 255, 127, 255);
        Gates.in(gate, 0, Gates.RST, 150, 9, 22);
        check.dueEmission("a reset", gate, 150, 9, 7, 80);
    }
}
