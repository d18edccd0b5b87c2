/** Promise 6: expose. */
public final class Promise06ExposeTest {
    public static void main(String[] args) {
        Check check = new Check("Promise 6: expose");
        check.sentence("Exposes the INSIDE endpoint under the public port (0 .. 99): PASSED.",
                Promise06ExposeTest::exposes);
        check.sentence("protocol not 0 .. 2", Promise06ExposeTest::protocolOutOfRange);
        check.sentence("publicPort, address (0 .. 127) or port out of range: REFUSED", Promise06ExposeTest::publicPort);
        check.sentence("address (0 .. 127) or port out of range: REFUSED", Promise06ExposeTest::address);
        check.sentence("or port out of range: REFUSED", Promise06ExposeTest::port);
        check.sentence("the public port is that of a mapping of the protocol", Promise06ExposeTest::portIsTaken);
        check.sentence("or the endpoint has a mapping of the protocol: STATE", Promise06ExposeTest::endpointIsTaken);
        check.sentence("or the endpoint has a mapping of the protocol: STATE",
                Promise06ExposeTest::endpointHasAMappingMadeForAFlow);
        check.sentence("4 are exposed: FULL.", Promise06ExposeTest::fullAt4);
        check.end();
    }

    private static void exposes(Check check) {
        PacketGate gate = Gates.gate("Pi**,*,*");
        check.due("the least numbers", gate.expose(0, 0, 0, 0), PacketGate.PASSED);
        check.due("the greatest numbers", gate.expose(2, 99, 127, 255), PacketGate.PASSED);
        check.due("exposed", gate.count(2), 2);
        check.due("other mappings", gate.count(3), 0);
        check.due("flows", gate.count(1), 0);
        check.due("it is no packet", gate.count(4), 0);
        check.due("emission", gate.emission(0), PacketGate.REFUSED);
        Gates.in(gate, 0, Gates.SYN, 150, 1, 0);
        check.dueEmission("inward to 0", gate, 150, 1, 0, 0);
        Gates.in(gate, 2, 0, 150, 1, 99);
        check.dueEmission("inward to 99", gate, 150, 1, 127, 255);
    }

    private static void refused(Check check, int protocol, int publicPort, int address, int port) {
        PacketGate gate = new PacketGate();
        check.due("expose(" + protocol + ", " + publicPort + ", " + address + ", " + port + ")",
                gate.expose(protocol, publicPort, address, port), PacketGate.REFUSED);
        check.due("exposed", gate.count(2), 0);
    }

    private static void protocolOutOfRange(Check check) {
        for (int protocol : Gates.notWithin(0, 2)) {
            refused(check, protocol, 1, 1, 1);
        }
    }

    private static void publicPort(Check check) {
        for (int publicPort : Gates.notWithin(0, 99)) {
            refused(check, 1, publicPort, 1, 1);
        }
        refused(check, 1, 111, 1, 1);
        refused(check, 1, 255, 1, 1);
    }

    private static void address(Check check) {
        for (int address : Gates.notWithin(0, 127)) {
            refused(check, 1, 1, address, 1);
        }
        refused(check, 1, 1, 200, 1);
        refused(check, 1, 1, 255, 1);
    }

    private static void port(Check check) {
        for (int port : Gates.notWithin(0, 255)) {
            refused(check, 1, 1, 1, port);
        }
    }

    private static void portIsTaken(Check check) {
        PacketGate gate = new PacketGate();
        gate.expose(0, 22, 7, 22);
        check.due("the same again", gate.expose(0, 22, 7, 22), PacketGate.STATE);
        check.due("for another address", gate.expose(0, 22, 8, 22), PacketGate.STATE);
        check.due("for another port", gate.expose(0, 22, 7, 23), PacketGate.STATE);
        check.due("exposed", gate.count(2), 1);
        check.due("it is no packet", gate.count(5), 0);
        check.due("of another protocol", gate.expose(1, 22, 8, 22), PacketGate.PASSED);
        gate.hide(0, 22);
        check.due("when it is hidden", gate.expose(0, 22, 8, 22), PacketGate.PASSED);
    }

    private static void endpointIsTaken(Check check) {
        PacketGate gate = new PacketGate();
        gate.expose(0, 22, 7, 22);
        check.due("under another port", gate.expose(0, 23, 7, 22), PacketGate.STATE);
        check.due("exposed", gate.count(2), 1);
        check.due("of another protocol", gate.expose(1, 23, 7, 22), PacketGate.PASSED);
        check.due("another port of the address", gate.expose(0, 23, 7, 23), PacketGate.PASSED);
        gate.hide(0, 22);
        check.due("when it is hidden", gate.expose(0, 24, 7, 22), PacketGate.PASSED);
    }

    private static void endpointHasAMappingMadeForAFlow(Check check) {
        PacketGate gate = Gates.gate("Po**,*,*");
        Gates.out(gate, 1, 0, 3, 3, 150, 1);
        check.due("while the flow is there", gate.expose(1, 5, 3, 3), PacketGate.STATE);
        check.due("of another protocol", gate.expose(2, 5, 3, 3), PacketGate.PASSED);
        gate.tick(10);
        check.due("when it has ended", gate.expose(1, 5, 3, 3), PacketGate.PASSED);
        Gates.out(gate, 1, 0, 3, 3, 150, 1);
        check.dueEmission("outward from it", gate, 200, 5, 150, 1);
        check.due("other mappings", gate.count(3), 0);
    }

    private static void fullAt4(Check check) {
        PacketGate gate = new PacketGate();
        for (int n = 0; n < 4; n++) {
            check.due("expose " + n, gate.expose(n % 3, n, n, n), PacketGate.PASSED);
        }
        check.due("a fifth", gate.expose(0, 50, 50, 50), PacketGate.FULL);
        check.due("exposed", gate.count(2), 4);
        gate.hide(1, 1);
        check.due("a fourth again", gate.expose(0, 50, 50, 50), PacketGate.PASSED);
        check.due("a fifth again", gate.expose(0, 51, 51, 51), PacketGate.FULL);
    }
}
