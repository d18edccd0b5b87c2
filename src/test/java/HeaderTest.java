/** Promise 8: header. */
public final class HeaderTest {
    public static void main(String[] args) {
        Check check = new Check();
        PacketGate gate = Check.gate("Po**,*,*");
        check.due("header(1, 2, 150, 4)", gate.header(1, 2, 150, 4), PacketGate.PASSED);
        int[] wrong = {-1, 256, Integer.MIN_VALUE, Integer.MAX_VALUE};
        for (int n : wrong) {
            check.due("source " + n, gate.header(n, 9, 160, 9), PacketGate.REFUSED);
            check.due("source port " + n, gate.header(9, n, 160, 9), PacketGate.REFUSED);
            check.due("target " + n, gate.header(9, 9, n, 9), PacketGate.REFUSED);
            check.due("target port " + n, gate.header(9, 9, 160, n), PacketGate.REFUSED);
        }
        check.due("header is no packet", gate.count(4), 0);
        check.due("outward", gate.outward(1, 0), PacketGate.PASSED);
        int[] want = {6, 1, 1, 2, 150, 4, 100, 0};
        for (int field = 0; field < want.length; field++) {
            check.due("field " + field + " after refused headers", gate.flow(0, field), want[field]);
        }
        check.due("the least numbers", gate.header(0, 0, 0, 0), PacketGate.PASSED);
        check.due("the greatest numbers", gate.header(255, 255, 255, 255), PacketGate.PASSED);
        check.due("ports 0 and 255", Check.out(gate, 1, 0, 127, 255, 255, 0), PacketGate.PASSED);
        check.due("INSIDE port", gate.flow(1, 3), 255);
        check.due("OUTSIDE port", gate.flow(1, 5), 0);
        check.end();
    }
}
