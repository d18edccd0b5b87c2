/** Promise 17: count. */
public final class CountTest {
    public static void main(String[] args) {
        Check check = new Check();
        PacketGate gate = Check.gate("Sb*99,*,*", "Sb**,99,*", "Pb**,*,*");
        gate.expose(0, 1, 1, 1);
        gate.expose(1, 1, 1, 1);
        gate.expose(1, 1, 1, 1);
        due(check, gate, 3, 0, 2, 0, 0, 0, 0, 1, 0, 0, 0, -1);
        Check.out(gate, 0, 1, 5, 6, 150, 8);
        Check.out(gate, 0, 1, 5, 6, 151, 8);
        Check.out(gate, 1, 0, 5, 6, 151, 8);
        Check.in(gate, 0, 1, 150, 8, 1);
        due(check, gate, 3, 4, 2, 2, 4, 0, 0, 1, 0, 0, 0, -1);
        Check.out(gate, 1, 0, 99, 6, 151, 8);
        gate.header(200, 100, 150, 8);
        gate.report(0);
        gate.header(151, 8, 99, 6);
        gate.unseal(1, 12, true, 1, 0);
        due(check, gate, 3, 4, 2, 2, 7, 0, 0, 1, 1, 12, 0, -1);
        gate.report(0);
        gate.inward(0, 0);
        gate.outward(0, 0);
        gate.unseal(1, 12, true, 1, 0);
        gate.unseal(1, 13, false, 1, 0);
        gate.unseal(2, 13, true, 1, 0);
        Check.out(gate, 0, 0, 5, 7, 150, 8);
        due(check, gate, 3, 4, 2, 2, 7, 7, 0, 1, 1, 12, 0, -1);
        gate.outward(3, 0);
        gate.inward(0, 16);
        gate.report(-1);
        gate.unseal(1, 0, true, 1, 0);
        gate.tick(0);
        gate.header(-1, 0, 0, 0);
        gate.hide(2, 1);
        due(check, gate, 3, 4, 2, 2, 7, 7, 0, 1, 1, 12, 0, -1);
        gate.tick(4);
        gate.rekey();
        Check.install(gate, "Pot*,300");
        Check.type(gate, "Pot");
        gate.hide(0, 1);
        gate.withdraw(1);
        due(check, gate, 2, 3, 1, 2, 7, 7, 4, 2, 0, 0, 3, 7);
        int[] wrong = {-1, 12, Integer.MIN_VALUE, Integer.MAX_VALUE};
        for (int what : wrong) {
            check.due("count(" + what + ")", gate.count(what), PacketGate.REFUSED);
        }
        checkNoRoomAndExhaustedCount(check);
        check.end();
    }

    private static void checkNoRoomAndExhaustedCount(Check check) {
        PacketGate gate = Check.gate("Soe*,*,*", "Po**,*,*");
        for (int port = 0; port < 13; port++) {
            Check.out(gate, 1, 0, 5, port, 150, 8);
        }
        check.due("let through", gate.count(4), 12);
        check.due("NO_ROOM counts", gate.count(5), 1);
        for (int n = 0; n < 41; n++) {
            gate.outward(2, 0);
        }
        check.due("SEALED counts", gate.count(4), 52);
        check.due("EXHAUSTED counts", gate.count(5), 2);
    }

    private static void due(Check check, PacketGate gate, int... want) {
        for (int what = 0; what < want.length; what++) {
            check.due("count(" + what + ")", gate.count(what), want[what]);
        }
    }
}
