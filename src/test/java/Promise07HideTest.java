/** Promise 7: hide. */
public final class Promise07HideTest {
    public static void main(String[] args) {
        Check check = new Check("Promise 7: hide");
        check.sentence("Takes the exposed mapping away", Promise07HideTest::takesTheMappingAway);
        check.sentence("its flows end: PASSED.", Promise07HideTest::itsFlowsEnd);
        check.sentence("its flows end: PASSED.", Promise07HideTest::allOf16FlowsEnd);
        check.sentence("There is none of the protocol under the public port", Promise07HideTest::noneThere);
        check.sentence("or numbers out of range: REFUSED.", Promise07HideTest::outOfRange);
        check.end();
    }

    private static void takesTheMappingAway(Check check) {
        for (int hidden = 0; hidden < 4; hidden++) {
            PacketGate gate = Gates.gate("Pi**,*,*");
            for (int n = 0; n < 4; n++) {
                gate.expose(1, 33 * n, 10 + n, 20 + n);
            }
            check.due("hide", gate.hide(1, 33 * hidden), PacketGate.PASSED);
            check.due("exposed", gate.count(2), 3);
            for (int n = 0; n < 4; n++) {
                boolean gone = n == hidden;
                check.due("inward to " + n, Gates.in(gate, 1, 0, 150, 1, 33 * n),
                        gone ? PacketGate.DROPPED : PacketGate.PASSED);
                if (!gone) {
                    check.dueEmission("inward to " + n, gate, 150, 1, 10 + n, 20 + n);
                }
            }
        }
    }

    private static void itsFlowsEnd(Check check) {
        PacketGate gate = Gates.gate("Pb**,*,*");
        gate.expose(1, 10, 4, 4);
        gate.expose(2, 10, 4, 4);
        Gates.out(gate, 1, 0, 9, 9, 150, 1);
        Gates.in(gate, 1, 0, 151, 1, 10);
        Gates.in(gate, 2, 0, 151, 1, 10);
        Gates.in(gate, 1, 0, 152, 1, 10);
        Gates.out(gate, 1, 0, 4, 4, 153, 1);
        check.due("flows", gate.count(1), 5);
        check.due("hide(1, 10)", gate.hide(1, 10), PacketGate.PASSED);
        check.due("flows afterwards", gate.count(1), 2);
        check.due("the first stays", gate.flow(0, 2), 9);
        check.due("that of the other protocol stays", gate.flow(1, 1), 2);
        check.due("a new flow from there", Gates.out(gate, 1, 0, 4, 4, 153, 1), PacketGate.PASSED);
        check.due("has a mapping made for it", gate.emission(1), 101);
        check.due("hide answers no packet", gate.count(4), 6);
    }

    private static void allOf16FlowsEnd(Check check) {
        PacketGate gate = Gates.gate("Pi**,*,*");
        gate.expose(1, 10, 4, 4);
        for (int port = 0; port < 16; port++) {
            Gates.in(gate, 1, 0, 150, port, 10);
        }
        check.due("flows", gate.count(1), 16);
        check.due("hide(1, 10)", gate.hide(1, 10), PacketGate.PASSED);
        check.due("flows afterwards", gate.count(1), 0);
        check.due("a flow without the mapping", gate.flow(0, 0), PacketGate.REFUSED);
    }

    private static void noneThere(Check check) {
        PacketGate gate = Gates.gate("Po**,*,*");
        check.due("of none at all", gate.hide(0, 22), PacketGate.REFUSED);
        gate.expose(0, 22, 7, 22);
        Gates.out(gate, 0, 1, 1, 1, 150, 1);
        check.due("under another port", gate.hide(0, 23), PacketGate.REFUSED);
        check.due("of another protocol", gate.hide(1, 22), PacketGate.REFUSED);
        check.due("a mapping made for a flow", gate.hide(0, 100), PacketGate.REFUSED);
        check.due("exposed", gate.count(2), 1);
        check.due("the mapping made", gate.count(3), 1);
        check.due("the flow", gate.count(1), 1);
        check.due("hide(0, 22)", gate.hide(0, 22), PacketGate.PASSED);
        check.due("hide(0, 22) again", gate.hide(0, 22), PacketGate.REFUSED);
        check.due("the flow of another mapping", gate.count(1), 1);
    }

    private static void outOfRange(Check check) {
        PacketGate gate = new PacketGate();
        gate.expose(0, 0, 1, 1);
        gate.expose(2, 99, 1, 1);
        for (int protocol : Gates.notWithin(0, 2)) {
            check.due("protocol " + protocol, gate.hide(protocol, 0), PacketGate.REFUSED);
            check.due("protocol " + protocol, gate.hide(protocol, 99), PacketGate.REFUSED);
        }
        for (int publicPort : Gates.notWithin(0, 99)) {
            check.due("public port " + publicPort, gate.hide(0, publicPort), PacketGate.REFUSED);
            check.due("public port " + publicPort, gate.hide(2, publicPort), PacketGate.REFUSED);
        }
        check.due("exposed", gate.count(2), 2);
    }
}
