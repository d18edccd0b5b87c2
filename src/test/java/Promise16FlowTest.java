/** Promise 16: flow. */
public final class Promise16FlowTest {
    public static void main(String[] args) {
        Check check = new Check("Promise 16: flow");
        check.sentence("Of flow number i, counted from 0 in the order in which those that are there were opened",
                Promise16FlowTest::orderOfOpening);
        check.sentence("STATE (0), protocol (1), INSIDE address (2) and port (3), OUTSIDE address (4) and port (5), public"
                + " port (6), LAST (7).", Promise16FlowTest::fields);
        check.sentence("No such flow or field: REFUSED.", Promise16FlowTest::noSuchFlow);
        check.sentence("No such flow or field: REFUSED.", Promise16FlowTest::noSuchField);
        check.end();
    }

    private static void orderOfOpening(Check check) {
        PacketGate gate = Gates.gate("Po**,*,*");
        for (int port = 0; port < 16; port++) {
            Gates.out(gate, 0, 1, 5, 5, 150, port);
        }
        Gates.out(gate, 0, 1, 5, 5, 150, 7);
        for (int i = 0; i < 16; i++) {
            check.due("port of flow " + i, gate.flow(i, 5), i);
        }
        int[] ended = {15, 0, 6};
        for (int port : ended) {
            Gates.out(gate, 0, Gates.RST, 5, 5, 150, port);
        }
        Gates.out(gate, 0, 1, 5, 5, 150, 6);
        int[] left = {1, 2, 3, 4, 5, 7, 8, 9, 10, 11, 12, 13, 14, 6};
        check.due("flows", gate.count(1), left.length);
        for (int i = 0; i < left.length; i++) {
            check.due("port of flow " + i, gate.flow(i, 5), left[i]);
        }
    }

    private static void fields(Check check) {
        PacketGate gate = Gates.gate("Pb**,*,*");
        gate.expose(2, 22, 7, 80);
        gate.tick(1);
        Gates.out(gate, 0, 1, 5, 6, 150, 8);
        gate.tick(2);
        Gates.in(gate, 2, 0, 151, 9, 22);
        gate.tick(3);
        Gates.out(gate, 1, 0, 6, 0, 255, 255);
        Gates.in(gate, 1, 0, 255, 255, 100);
        check.dueFlow(gate, 0, 1, 0, 5, 6, 150, 8, 100, 1);
        check.dueFlow(gate, 1, 6, 2, 7, 80, 151, 9, 22, 3);
        check.dueFlow(gate, 2, 7, 1, 6, 0, 255, 255, 100, 6);
        Gates.in(gate, 0, 3, 150, 8, 100);
        check.dueFlow(gate, 0, 2, 0, 5, 6, 150, 8, 100, 6);
    }

    private static void noSuchFlow(Check check) {
        check.due("of none", new PacketGate().flow(0, 0), PacketGate.REFUSED);
        PacketGate gate = Gates.gate("Po**,*,*");
        Gates.openFlows(gate, 3);
        for (int i : Gates.notWithin(0, 2)) {
            check.due("flow(" + i + ", 0)", gate.flow(i, 0), PacketGate.REFUSED);
        }
        Gates.openFlows(gate, 16);
        check.due("flow(15, 5)", gate.flow(15, 5), 15);
        check.due("flow(16, 5)", gate.flow(16, 5), PacketGate.REFUSED);
        gate.tick(10);
        check.due("when they have ended", gate.flow(0, 0), PacketGate.REFUSED);
    }

    private static void noSuchField(Check check) {
        PacketGate gate = Gates.gate("Po**,*,*");
        Gates.openFlows(gate, 2);
        for (int field : Gates.notWithin(0, 7)) {
            check.due("flow(0, " + field + ")", gate.flow(0, field), PacketGate.REFUSED);
            check.due("flow(1, " + field + ")", gate.flow(1, field), PacketGate.REFUSED);
        }
    }
}
