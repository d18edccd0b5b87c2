/** Promise 14: tick, with the limits of the states. */
public final class TickTest {
    private static final int[] LIMITS = {0, 10, 10, 60, 30, 5, 10, 30};

    public static void main(String[] args) {
        Check check = new Check();
        checkRanges(check);
        for (int state = 1; state <= 7; state++) {
            checkLimit(check, state);
        }
        checkLastIsRenewed(check);
        checkOrderStays(check);
        checkSixteenFlowsEnd(check);
        check.end();
    }

    private static void checkRanges(Check check) {
        PacketGate gate = new PacketGate();
        int[] wrong = {0, -1, 101, Integer.MIN_VALUE, Integer.MAX_VALUE};
        for (int n : wrong) {
            check.due("tick(" + n + ")", gate.tick(n), PacketGate.REFUSED);
            check.due("TIME", gate.count(6), 0);
        }
        check.due("tick(1)", gate.tick(1), 1);
        check.due("tick(100)", gate.tick(100), 101);
        check.due("TIME", gate.count(6), 101);
        for (int n = 2; n <= 400; n++) {
            gate.tick(100);
        }
        check.due("TIME after many", gate.count(6), 40001);
    }

    private static PacketGate brought(int state) {
        PacketGate gate = Check.gate("Po**,*,*");
        gate.tick(13);
        int protocol = state >= 6 ? 2 : 0;
        int[] outs = {1, -1, 2, 4, -1};
        int[] ins = {-1, 3, -1, -1, 4};
        if (protocol == 2) {
            Check.out(gate, 2, 0, 5, 5, 150, 9);
            if (state == 7) {
                Check.in(gate, 2, 0, 150, 9, 100);
            }
            return gate;
        }
        for (int step = 0; step < state; step++) {
            if (outs[step] >= 0) {
                Check.out(gate, 0, outs[step], 5, 5, 150, 9);
            } else {
                Check.in(gate, 0, ins[step], 150, 9, 100);
            }
        }
        return gate;
    }

    private static void checkLimit(Check check, int state) {
        PacketGate gate = brought(state);
        check.due("state", gate.flow(0, 0), state);
        gate.tick(LIMITS[state] - 1);
        check.due("state " + state + " before its limit", gate.count(1), 1);
        check.due("its mapping", gate.count(3), 1);
        gate.tick(1);
        check.due("state " + state + " at its limit", gate.count(1), 0);
        check.due("its mapping is gone", gate.count(3), 0);
        PacketGate other = brought(state);
        other.tick(100);
        check.due("state " + state + " far behind its limit", other.count(1), 0);
    }

    private static void checkLastIsRenewed(Check check) {
        PacketGate gate = Check.gate("Po**,*,*");
        Check.out(gate, 1, 0, 5, 5, 150, 9);
        for (int n = 0; n < 5; n++) {
            gate.tick(9);
            check.due("a packet in time", gate.outward(1, 0), PacketGate.PASSED);
            check.due("flows", gate.count(1), 1);
        }
        Check.out(gate, 0, 1, 5, 5, 150, 9);
        gate.tick(9);
        check.due("a bad packet", gate.outward(0, 2), PacketGate.STATE);
        gate.tick(1);
        check.due("renews nothing", gate.count(1), 0);
    }

    private static void checkSixteenFlowsEnd(Check check) {
        PacketGate gate = Check.gate("Po**,*,*");
        for (int port = 0; port < 16; port++) {
            Check.out(gate, 1, 0, 5, 5, 150, port);
        }
        check.due("a 17th", Check.out(gate, 1, 0, 5, 5, 150, 16), PacketGate.NO_ROOM);
        gate.tick(10);
        check.due("flows", gate.count(1), 0);
        check.due("mappings", gate.count(3), 0);
        check.due("there is room again", gate.outward(1, 0), PacketGate.PASSED);
    }

    private static void checkOrderStays(Check check) {
        PacketGate gate = Check.gate("Po**,*,*");
        for (int port = 0; port < 8; port++) {
            Check.out(gate, 1, 0, 5, port, 150, 9);
        }
        gate.tick(5);
        for (int port = 1; port < 8; port += 2) {
            Check.out(gate, 1, 0, 5, port, 150, 9);
        }
        check.due("tick(5)", gate.tick(5), 10);
        check.due("flows", gate.count(1), 4);
        for (int i = 0; i < 4; i++) {
            check.due("port of flow " + i, gate.flow(i, 3), 2 * i + 1);
        }
        check.due("behind them", gate.flow(4, 3), PacketGate.REFUSED);
    }
}
