/** Promise 9: outward. What a packet does to its flow is in TermsOfStatesTest, what opens one in TermsOfFlowsTest. */
public final class Promise09OutwardTest {
    public static void main(String[] args) {
        Check check = new Check("Promise 9: outward");
        check.sentence("protocol or flags out of range: REFUSED.", Promise09OutwardTest::outOfRange);
        check.sentence("The source isn't INSIDE or the target isn't OUTSIDE: MARTIAN.", Promise09OutwardTest::martian);
        check.sentence("It belongs to the flow of the protocol whose INSIDE endpoint is the source and whose OUTSIDE one"
                + " is the target, if there is one.", Promise09OutwardTest::belongsToAFlow);
        check.sentence("Else by the POLICY (outward): drop: DROPPED", Promise09OutwardTest::dropped);
        check.sentence("seal: the CURRENT association has sealed 40: EXHAUSTED", Promise09OutwardTest::exhausted);
        check.sentence("else its SEQUENCE grows by one, SEALED, and the EMISSION is from PUBLIC and the association's"
                + " number to 250 and the SEQUENCE", Promise09OutwardTest::sealed);
        check.sentence("permit: it opens a flow.", Promise09OutwardTest::opensAFlow);
        check.sentence("permit: it opens a flow.", Promise09OutwardTest::opensTheSixteenthButNoMore);
        check.sentence("Let through: PASSED, the EMISSION is from PUBLIC and the mapping's public port to the target.",
                Promise09OutwardTest::emission);
        check.end();
    }

    private static void outOfRange(Check check) {
        PacketGate gate = Gates.gate("Po**,*,*");
        gate.header(1, 1, 150, 1);
        for (int protocol : Gates.notWithin(0, 2)) {
            check.due("protocol " + protocol, gate.outward(protocol, 1), PacketGate.REFUSED);
        }
        for (int flags : Gates.notWithin(0, 15)) {
            for (int protocol = 0; protocol <= 2; protocol++) {
                check.due("flags " + flags, gate.outward(protocol, flags), PacketGate.REFUSED);
            }
        }
        check.due("they are not counted", gate.count(4) + gate.count(5), 0);
        check.due("flows", gate.count(1), 0);
        check.due("the least", gate.outward(0, 0), PacketGate.STATE);
        check.due("the greatest", gate.outward(2, 15), PacketGate.PASSED);
    }

    private static void martian(Check check) {
        for (int address = 0; address <= 255; address++) {
            PacketGate gate = Gates.gate("Po**,*,*");
            check.due("outward from " + address, Gates.out(gate, 1, 0, address, 1, 150, 1),
                    address <= 127 ? PacketGate.PASSED : PacketGate.MARTIAN);
            check.due("outward to " + address, Gates.out(gate, 2, 0, 1, 1, address, 1),
                    address >= 128 && address != 200 ? PacketGate.PASSED : PacketGate.MARTIAN);
            check.due("both wrong", Gates.out(gate, 2, 0, 200, 1, 200, 1), PacketGate.MARTIAN);
        }
    }

    private static void belongsToAFlow(Check check) {
        PacketGate gate = Gates.gate("Pi**,*,*");
        gate.expose(1, 7, 4, 4);
        Gates.in(gate, 1, 0, 150, 9, 7);
        check.due("an answer though nothing may go out", Gates.out(gate, 1, 0, 4, 4, 150, 9), PacketGate.PASSED);
        check.due("the flow's state", gate.flow(0, 0), 7);
        check.due("from another port", Gates.out(gate, 1, 0, 4, 5, 150, 9), PacketGate.DROPPED);
        check.due("to another port", Gates.out(gate, 1, 0, 4, 4, 150, 8), PacketGate.DROPPED);
        check.due("of another protocol", Gates.out(gate, 2, 0, 4, 4, 150, 9), PacketGate.DROPPED);
        check.due("from another address", Gates.out(gate, 1, 0, 5, 4, 150, 9), PacketGate.DROPPED);
        check.due("to another address", Gates.out(gate, 1, 0, 4, 4, 151, 9), PacketGate.DROPPED);
        Gates.install(gate, "So**,*,*");
        check.due("a flow's packet is not sealed", Gates.out(gate, 1, 0, 4, 4, 150, 9), PacketGate.PASSED);
        check.due("flows", gate.count(1), 1);
    }

    private static void dropped(Check check) {
        PacketGate gate = Gates.gate("Do**,150,*", "Pi**,*,*");
        check.due("by a rule", Gates.out(gate, 1, 0, 1, 1, 150, 1), PacketGate.DROPPED);
        check.due("by no rule", Gates.out(gate, 1, 0, 1, 1, 151, 1), PacketGate.DROPPED);
        check.due("not let through", gate.count(5), 2);
        check.due("flows", gate.count(1), 0);
        check.due("mappings", gate.count(3), 0);
        check.due("emission", gate.emission(0), PacketGate.REFUSED);
    }

    private static void exhausted(Check check) {
        PacketGate gate = Gates.gate("Sb**,*,*");
        gate.header(1, 1, 150, 1);
        for (int n = 1; n <= 40; n++) {
            check.due("seal " + n, gate.outward(n % 3, n % 16), PacketGate.SEALED);
        }
        check.due("seal 41", gate.outward(1, 0), PacketGate.EXHAUSTED);
        check.due("and again", gate.outward(0, 1), PacketGate.EXHAUSTED);
        check.due("SEQUENCE", gate.count(8), 40);
        check.dueEmission("it", gate, 200, 1, 250, 40);
        check.due("let through", gate.count(4), 40);
        check.due("not let through", gate.count(5), 2);
        gate.tick(100);
        check.due("time is no help", gate.outward(1, 0), PacketGate.EXHAUSTED);
        gate.header(150, 1, 1, 1);
        check.due("it still unseals", Gates.unseal(gate, 1, 41), PacketGate.PASSED);
        gate.rekey();
        gate.header(1, 1, 150, 1);
        for (int n = 1; n <= 40; n++) {
            check.due("seal " + n + " under the next", gate.outward(1, 0), PacketGate.SEALED);
        }
        check.due("seal 41 under the next", gate.outward(1, 0), PacketGate.EXHAUSTED);
    }

    private static void sealed(Check check) {
        PacketGate gate = Gates.gate("So**,*,*");
        for (int n = 1; n <= 40; n++) {
            check.due("seal " + n, Gates.out(gate, n % 3, n % 16, n, n, 128 + n, 7), PacketGate.SEALED);
            check.dueEmission("seal " + n, gate, 200, 1, 250, n);
            check.due("SEQUENCE", gate.count(8), n);
        }
        check.due("flows", gate.count(1), 0);
        check.due("mappings", gate.count(3), 0);
        gate.rekey();
        gate.outward(1, 0);
        check.dueEmission("a seal under 2", gate, 200, 2, 250, 1);
    }

    private static void opensAFlow(Check check) {
        PacketGate gate = Gates.gate("Po**,*,*");
        gate.tick(3);
        check.due("outward", Gates.out(gate, 0, 1, 5, 40, 150, 80), PacketGate.PASSED);
        check.dueFlow(gate, 0, 1, 0, 5, 40, 150, 80, 100, 3);
        check.due("a stream without SYN", Gates.out(gate, 0, 2, 5, 41, 150, 80), PacketGate.STATE);
        check.due("flows", gate.count(1), 1);
    }

    private static void opensTheSixteenthButNoMore(Check check) {
        PacketGate gate = Gates.gate("Po**,*,*");
        Gates.openFlows(gate, 15);
        check.due("the 16th", Gates.out(gate, 0, 1, 9, 9, 160, 1), PacketGate.PASSED);
        check.due("the 17th", Gates.out(gate, 0, 1, 9, 9, 161, 1), PacketGate.NO_ROOM);
        check.due("not let through", gate.count(5), 1);
        Gates.out(gate, 0, Gates.RST, 9, 9, 160, 1);
        check.due("when one has ended", Gates.out(gate, 0, 1, 9, 9, 161, 1), PacketGate.PASSED);
    }

    private static void emission(Check check) {
        PacketGate gate = Gates.exposing();
        Gates.out(gate, 0, 1, 5, 40, 150, 80);
        check.dueEmission("opening", gate, 200, 100, 150, 80);
        Gates.out(gate, 0, 1, 5, 41, 151, 81);
        check.dueEmission("another opening", gate, 200, 101, 151, 81);
        Gates.out(gate, 0, 1, 5, 40, 150, 80);
        check.dueEmission("a packet of the first flow", gate, 200, 100, 150, 80);
        Gates.out(gate, 1, 0, 7, 80, 255, 0);
        check.dueEmission("a packet of an exposed endpoint", gate, 200, 22, 255, 0);
        check.due("a bad packet", Gates.out(gate, 0, 3, 5, 40, 150, 80), PacketGate.STATE);
        check.dueEmission("a bad packet", gate, 200, 22, 255, 0);
        Gates.out(gate, 0, Gates.RST, 5, 41, 151, 81);
        check.dueEmission("a reset", gate, 200, 101, 151, 81);
    }
}
