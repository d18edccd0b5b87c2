/** Promise 15: emission. */
public final class EmissionTest {
    public static void main(String[] args) {
        Check check = new Check();
        PacketGate gate = Check.gate("Sou99,*,*", "Siu*,99,*", "Pb**,*,*");
        int[] wrong = {-1, 4, Integer.MIN_VALUE, Integer.MAX_VALUE};
        for (int field = -1; field <= 4; field++) {
            check.due("emission(" + field + ") before any packet", gate.emission(field), PacketGate.REFUSED);
        }
        gate.expose(1, 22, 7, 80);
        gate.header(1, 2, 3, 4);
        gate.outward(1, 0);
        gate.tick(1);
        check.due("emission(0) after no packet was let through", gate.emission(0), PacketGate.REFUSED);
        Check.out(gate, 1, 0, 5, 6, 150, 8);
        check.dueEmission("outward", gate, 200, 100, 150, 8);
        for (int field : wrong) {
            check.due("emission(" + field + ")", gate.emission(field), PacketGate.REFUSED);
        }
        Check.in(gate, 1, 0, 151, 9, 22);
        check.dueEmission("inward", gate, 151, 9, 7, 80);
        gate.header(200, 100, 150, 8);
        gate.report(1);
        check.dueEmission("report", gate, 5, 6, 150, 8);
        Check.out(gate, 1, 0, 99, 1, 160, 2);
        check.dueEmission("a seal", gate, 200, 1, 250, 1);
        gate.header(250, 3, 99, 4);
        gate.unseal(1, 1, true, 1, 0);
        check.dueEmission("unseal", gate, 250, 3, 99, 4);
        gate.unseal(1, 1, true, 1, 0);
        gate.unseal(1, 2, false, 1, 0);
        gate.unseal(5, 2, true, 1, 0);
        gate.outward(1, 0);
        gate.inward(1, 0);
        gate.report(1);
        Check.out(gate, 0, 2, 5, 6, 150, 8);
        check.dueEmission("packets not let through", gate, 250, 3, 99, 4);
        gate.hide(1, 22);
        gate.rekey();
        gate.tick(100);
        check.dueEmission("other calls", gate, 250, 3, 99, 4);
        check.end();
    }
}
