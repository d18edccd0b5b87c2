/** Promise 7: hide. */
public final class HideTest {
    public static void main(String[] args) {
        Check check = new Check();
        checkRefused(check);
        checkFlowsEnd(check);
        checkEachCanBeHidden(check);
        checkAllFlowsEnd(check);
        check.end();
    }

    private static void checkRefused(Check check) {
        PacketGate gate = Check.gate("Po**,*,*");
        gate.expose(0, 22, 7, 22);
        Check.out(gate, 0, 1, 1, 1, 150, 1);
        int[][] none = {{0, 23}, {1, 22}, {2, 22}, {-1, 22}, {3, 22}, {0, -1}, {0, 100}, {0, 256},
            {Integer.MAX_VALUE, Integer.MIN_VALUE}};
        for (int[] a : none) {
            check.due("hide " + a[0] + " " + a[1], gate.hide(a[0], a[1]), PacketGate.REFUSED);
        }
        check.due("exposed", gate.count(2), 1);
        check.due("the mapping of the flow", gate.count(3), 1);
        check.due("hide(0, 22)", gate.hide(0, 22), PacketGate.PASSED);
        check.due("exposed afterwards", gate.count(2), 0);
        check.due("hide(0, 22) again", gate.hide(0, 22), PacketGate.REFUSED);
        check.due("the flow of another mapping stays", gate.count(1), 1);
    }

    private static void checkFlowsEnd(Check check) {
        PacketGate gate = Check.gate("Pb**,*,*");
        gate.expose(1, 10, 4, 4);
        gate.expose(2, 10, 4, 4);
        Check.out(gate, 1, 0, 9, 9, 150, 1);
        Check.in(gate, 1, 0, 151, 1, 10);
        Check.in(gate, 2, 0, 151, 1, 10);
        Check.in(gate, 1, 0, 152, 1, 10);
        Check.out(gate, 1, 0, 4, 4, 153, 1);
        check.due("flows", gate.count(1), 5);
        check.due("hide(1, 10)", gate.hide(1, 10), PacketGate.PASSED);
        check.due("flows afterwards", gate.count(1), 2);
        check.due("the first stays", gate.flow(0, 2), 9);
        check.due("that of the other protocol stays", gate.flow(1, 1), 2);
        check.due("nothing comes in", Check.in(gate, 1, 0, 151, 1, 10), PacketGate.DROPPED);
        check.due("a new flow from there", Check.out(gate, 1, 0, 4, 4, 153, 1), PacketGate.PASSED);
        check.due("has a mapping made for it", gate.emission(1), 101);
        check.due("hide answers no packet", gate.count(4), 6);
    }

    private static void checkAllFlowsEnd(Check check) {
        PacketGate gate = Check.gate("Pi**,*,*");
        gate.expose(1, 10, 4, 4);
        for (int port = 0; port < 16; port++) {
            Check.in(gate, 1, 0, 150, port, 10);
        }
        check.due("flows", gate.count(1), 16);
        check.due("hide(1, 10)", gate.hide(1, 10), PacketGate.PASSED);
        check.due("flows afterwards", gate.count(1), 0);
    }

    private static void checkEachCanBeHidden(Check check) {
        for (int hidden = 0; hidden < 4; hidden++) {
            PacketGate gate = Check.gate("Pi**,*,*");
            for (int n = 0; n < 4; n++) {
                gate.expose(1, n, 10 + n, 20 + n);
            }
            gate.hide(1, hidden);
            for (int n = 0; n < 4; n++) {
                int want = n == hidden ? PacketGate.DROPPED : PacketGate.PASSED;
                check.due("inward to " + n, Check.in(gate, 1, 0, 150, 1, n), want);
                if (n != hidden) {
                    check.dueEmission("inward to " + n, gate, 150, 1, 10 + n, 20 + n);
                }
            }
        }
    }
}
