/** Terms: mappings, exposed ones and those made for flows. */
public final class TermsOfMappingsTest {
    public static void main(String[] args) {
        Check check = new Check("Terms");
        check.sentence("MAPPINGS of a protocol join an INSIDE endpoint (address and port) and a public port.",
                TermsOfMappingsTest::joinEndpointAndPort);
        check.sentence("EXPOSED ones (at most 4 in all)", TermsOfMappingsTest::atMost4ExposedInAll);
        check.sentence("stand until hidden.", TermsOfMappingsTest::exposedOnesStandUntilHidden);
        check.sentence("Others are made for flows, with the least public port 100 .. 111 that no mapping of the"
                + " protocol has", TermsOfMappingsTest::leastPublicPort);
        check.sentence("and go as soon as no flow has them.", TermsOfMappingsTest::goWithTheirLastFlow);
        check.end();
    }

    private static void joinEndpointAndPort(Check check) {
        PacketGate gate = Gates.gate("Pb**,*,*");
        gate.expose(1, 22, 7, 80);
        Gates.out(gate, 1, 0, 7, 80, 150, 1);
        check.dueEmission("outward from 7 port 80", gate, 200, 22, 150, 1);
        Gates.out(gate, 1, 0, 7, 81, 150, 1);
        check.dueEmission("outward from another port", gate, 200, 100, 150, 1);
        Gates.out(gate, 1, 0, 8, 80, 150, 1);
        check.dueEmission("outward from another address", gate, 200, 101, 150, 1);
        Gates.out(gate, 2, 0, 7, 80, 150, 1);
        check.dueEmission("outward by another protocol", gate, 200, 100, 150, 1);
        Gates.in(gate, 1, 0, 151, 1, 101);
        check.dueEmission("inward to 101", gate, 151, 1, 8, 80);
        Gates.in(gate, 2, 0, 151, 1, 100);
        check.dueEmission("inward to 100 by echo", gate, 151, 1, 7, 80);
        Gates.in(gate, 1, 0, 151, 1, 22);
        check.dueEmission("inward to 22", gate, 151, 1, 7, 80);
        check.due("exposed", gate.count(2), 1);
        check.due("others", gate.count(3), 3);
    }

    private static void atMost4ExposedInAll(Check check) {
        for (int protocol = 0; protocol <= 3; protocol++) {
            PacketGate gate = new PacketGate();
            for (int n = 0; n < 4; n++) {
                check.due("expose " + n, gate.expose(protocol == 3 ? n % 3 : protocol, n, 10 + n, 1),
                        PacketGate.PASSED);
            }
            for (int other = 0; other <= 2; other++) {
                check.due("a fifth, of " + other, gate.expose(other, 50, 50, 1), PacketGate.FULL);
            }
            check.due("exposed", gate.count(2), 4);
        }
    }

    private static void exposedOnesStandUntilHidden(Check check) {
        PacketGate gate = Gates.exposing();
        check.due("a stream to it", Gates.packet(gate, false, 0, Gates.SYN), PacketGate.PASSED);
        check.due("is reset", Gates.packet(gate, false, 0, Gates.RST), PacketGate.PASSED);
        check.due("exposed", gate.count(2), 3);
        check.due("an echo to it", Gates.packet(gate, false, 2, 0), PacketGate.PASSED);
        gate.tick(100);
        check.due("its flow ends by time", gate.count(1), 0);
        gate.rekey();
        gate.withdraw(1);
        check.due("exposed", gate.count(2), 3);
        Gates.install(gate, "Pb**,*,*");
        check.due("an echo to it once more", Gates.packet(gate, false, 2, 0), PacketGate.PASSED);
        gate.hide(2, 22);
        check.due("exposed", gate.count(2), 2);
        check.due("an echo to what is hidden", Gates.packet(gate, false, 2, 0), PacketGate.DROPPED);
    }

    private static void leastPublicPort(Check check) {
        PacketGate gate = Gates.gate("Po**,*,*");
        for (int n = 0; n < 12; n++) {
            Gates.out(gate, 0, Gates.SYN, 3, n, 130, 5);
            check.due("public port of stream " + n, gate.emission(1), 100 + n);
        }
        check.due("a 13th", Gates.out(gate, 0, Gates.SYN, 3, 12, 130, 5), PacketGate.NO_ROOM);
        Gates.out(gate, 1, 0, 3, 0, 130, 5);
        check.due("public port of a datagram", gate.emission(1), 100);
        int[] freed = {11, 4, 0};
        for (int n : freed) {
            Gates.out(gate, 0, Gates.RST, 3, n, 130, 5);
        }
        int[] taken = {100, 104, 111};
        for (int port : taken) {
            Gates.out(gate, 0, Gates.SYN, 4, port, 130, 5);
            check.due("the least that was freed", gate.emission(1), port);
        }
        check.due("none is left again", Gates.out(gate, 0, Gates.SYN, 3, 12, 130, 5), PacketGate.NO_ROOM);
    }

    private static void goWithTheirLastFlow(Check check) {
        PacketGate gate = Gates.gate("Po**,*,*");
        Gates.out(gate, 0, Gates.SYN, 3, 1, 130, 5);
        Gates.out(gate, 0, Gates.SYN, 3, 1, 131, 5);
        check.due("two flows, mappings", gate.count(3), 1);
        Gates.out(gate, 0, Gates.RST, 3, 1, 130, 5);
        check.due("one flow, mappings", gate.count(3), 1);
        check.due("its endpoint can't be exposed", gate.expose(0, 9, 3, 1), PacketGate.STATE);
        Gates.out(gate, 0, Gates.SYN, 3, 2, 130, 5);
        check.due("its port isn't free", gate.emission(1), 101);
        Gates.out(gate, 0, Gates.RST, 3, 1, 131, 5);
        check.due("the last is reset, mappings", gate.count(3), 1);
        check.due("nothing comes in there", Gates.in(gate, 0, Gates.SYN, 131, 5, 100), PacketGate.DROPPED);
        Gates.out(gate, 0, Gates.SYN, 3, 3, 130, 5);
        check.due("its port is free", gate.emission(1), 100);
        check.due("its endpoint can be exposed", gate.expose(0, 9, 3, 1), PacketGate.PASSED);
        gate.tick(9);
        check.due("before the limit, mappings", gate.count(3), 2);
        gate.tick(1);
        check.due("at the limit, mappings", gate.count(3), 0);
    }
}
