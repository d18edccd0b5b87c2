/** Promise 8: header. */
public final class Promise08HeaderTest {
    public static void main(String[] args) {
        Check check = new Check("Promise 8: header");
        check.sentence("Sets the HEADER: PASSED.", Promise08HeaderTest::setsTheHeader);
        check.sentence("One of the numbers is not 0 .. 255: REFUSED.", Promise08HeaderTest::outOfRange);
        check.end();
    }

    private static void setsTheHeader(Check check) {
        PacketGate gate = Gates.gate("Po**,*,*");
        check.due("the least numbers", gate.header(0, 0, 0, 0), PacketGate.PASSED);
        check.due("the greatest numbers", gate.header(255, 255, 255, 255), PacketGate.PASSED);
        check.due("header(127, 255, 255, 0)", gate.header(127, 255, 255, 0), PacketGate.PASSED);
        check.due("it is no packet", gate.count(4), 0);
        gate.outward(1, 0);
        check.dueFlow(gate, 0, 6, 1, 127, 255, 255, 0, 100, 0);
        gate.header(0, 0, 128, 255);
        gate.outward(1, 0);
        check.dueFlow(gate, 1, 6, 1, 0, 0, 128, 255, 101, 0);
        check.due("it stays after a packet", gate.outward(2, 0), PacketGate.PASSED);
        check.dueFlow(gate, 2, 6, 2, 0, 0, 128, 255, 100, 0);
    }

    private static void outOfRange(Check check) {
        PacketGate gate = Gates.gate("Po**,*,*");
        gate.header(1, 2, 150, 4);
        for (int n : Gates.notWithin(0, 255)) {
            check.due("source " + n, gate.header(n, 9, 160, 9), PacketGate.REFUSED);
            check.due("source port " + n, gate.header(9, n, 160, 9), PacketGate.REFUSED);
            check.due("target " + n, gate.header(9, 9, n, 9), PacketGate.REFUSED);
            check.due("target port " + n, gate.header(9, 9, 160, n), PacketGate.REFUSED);
        }
        check.due("they are no packets", gate.count(5), 0);
        gate.outward(1, 0);
        check.dueFlow(gate, 0, 6, 1, 1, 2, 150, 4, 100, 0);
    }
}
