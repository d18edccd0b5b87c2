/** Promise 6: expose. */
public final class ExposeTest {
    public static void main(String[] args) {
        Check check = new Check();
        checkRanges(check);
        checkTaken(check);
        checkFull(check);
        checkMappingOfFlow(check);
        check.end();
    }

    private static void checkRanges(Check check) {
        int[][] refused = {
            {-1, 0, 0, 0}, {3, 0, 0, 0}, {0, -1, 0, 0}, {0, 100, 0, 0}, {0, 0, -1, 0}, {0, 0, 128, 0},
            {0, 0, 0, -1}, {0, 0, 0, 256}, {0, 0, 200, 0}, {Integer.MAX_VALUE, 0, 0, 0},
            {0, Integer.MIN_VALUE, 0, 0}};
        for (int[] a : refused) {
            PacketGate gate = new PacketGate();
            check.due("expose " + a[0] + " " + a[1] + " " + a[2] + " " + a[3],
                    gate.expose(a[0], a[1], a[2], a[3]), PacketGate.REFUSED);
            check.due("exposed afterwards", gate.count(2), 0);
        }
        PacketGate gate = new PacketGate();
        check.due("the least numbers", gate.expose(0, 0, 0, 0), PacketGate.PASSED);
        check.due("the greatest numbers", gate.expose(2, 99, 127, 255), PacketGate.PASSED);
        check.due("exposed", gate.count(2), 2);
        check.due("other mappings", gate.count(3), 0);
        check.due("flows", gate.count(1), 0);
    }

    private static void checkTaken(Check check) {
        PacketGate gate = new PacketGate();
        gate.expose(0, 22, 7, 22);
        check.due("the public port again", gate.expose(0, 22, 8, 8), PacketGate.STATE);
        check.due("the endpoint again", gate.expose(0, 23, 7, 22), PacketGate.STATE);
        check.due("exposed", gate.count(2), 1);
        check.due("both, of another protocol", gate.expose(1, 22, 7, 22), PacketGate.PASSED);
        check.due("another port of the address", gate.expose(0, 23, 7, 23), PacketGate.PASSED);
        check.due("an answer STATE here is no packet", gate.count(5), 0);
        check.due("an answer PASSED here is no packet", gate.count(4), 0);
    }

    private static void checkFull(Check check) {
        PacketGate gate = new PacketGate();
        for (int n = 0; n < 4; n++) {
            check.due("expose " + n, gate.expose(n % 3, n, n, n), PacketGate.PASSED);
        }
        check.due("a fifth", gate.expose(0, 50, 50, 50), PacketGate.FULL);
        check.due("a fifth with a taken port", gate.expose(0, 0, 50, 50), PacketGate.STATE);
        check.due("a fifth out of range", gate.expose(0, 100, 50, 50), PacketGate.REFUSED);
        gate.hide(1, 1);
        check.due("a fourth again", gate.expose(0, 50, 50, 50), PacketGate.PASSED);
        check.due("exposed", gate.count(2), 4);
    }

    private static void checkMappingOfFlow(Check check) {
        PacketGate gate = Check.gate("Po**,*,*");
        Check.out(gate, 1, 0, 3, 3, 150, 1);
        check.due("an endpoint with a flow's mapping", gate.expose(1, 5, 3, 3), PacketGate.STATE);
        check.due("of another protocol", gate.expose(2, 5, 3, 3), PacketGate.PASSED);
        gate.tick(10);
        check.due("when the flow has ended", gate.expose(1, 5, 3, 3), PacketGate.PASSED);
        check.due("a flow of an exposed endpoint", Check.out(gate, 1, 0, 3, 3, 150, 1), PacketGate.PASSED);
        check.dueEmission("it", gate, 200, 5, 150, 1);
        check.due("no other mapping", gate.count(3), 0);
    }
}
