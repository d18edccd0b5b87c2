/** Promise 16: flow. */
public final class FlowTest {
    public static void main(String[] args) {
        Check check = new Check();
        PacketGate gate = Check.gate("Pb**,*,*");
        gate.expose(2, 22, 7, 80);
        gate.tick(1);
        Check.out(gate, 0, 1, 5, 6, 150, 8);
        gate.tick(2);
        Check.in(gate, 2, 0, 151, 9, 22);
        gate.tick(3);
        Check.out(gate, 1, 0, 6, 0, 255, 255);
        Check.in(gate, 1, 0, 255, 255, 100);
        dueFlow(check, gate, 0, 1, 0, 5, 6, 150, 8, 100, 1);
        dueFlow(check, gate, 1, 6, 2, 7, 80, 151, 9, 22, 3);
        dueFlow(check, gate, 2, 7, 1, 6, 0, 255, 255, 100, 6);
        int[] wrong = {-1, 8, Integer.MIN_VALUE, Integer.MAX_VALUE};
        for (int field : wrong) {
            check.due("field " + field, gate.flow(0, field), PacketGate.REFUSED);
        }
        int[] none = {-1, 3, 16, Integer.MIN_VALUE, Integer.MAX_VALUE};
        for (int i : none) {
            check.due("flow " + i, gate.flow(i, 0), PacketGate.REFUSED);
        }
        check.due("a packet of the first", Check.in(gate, 0, 3, 150, 8, 100), PacketGate.PASSED);
        dueFlow(check, gate, 0, 2, 0, 5, 6, 150, 8, 100, 6);
        Check.out(gate, 0, 8, 5, 6, 150, 8);
        dueFlow(check, gate, 0, 6, 2, 7, 80, 151, 9, 22, 3);
        dueFlow(check, gate, 1, 7, 1, 6, 0, 255, 255, 100, 6);
        check.due("two are left", gate.flow(2, 0), PacketGate.REFUSED);
        Check.out(gate, 0, 1, 5, 6, 150, 8);
        dueFlow(check, gate, 2, 1, 0, 5, 6, 150, 8, 100, 6);
        check.end();
    }

    private static void dueFlow(Check check, PacketGate gate, int i, int... want) {
        for (int field = 0; field < want.length; field++) {
            check.due("flow(" + i + ", " + field + ")", gate.flow(i, field), want[field]);
        }
    }
}
