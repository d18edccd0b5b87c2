import java.util.HashSet;
import java.util.Random;
import java.util.Set;

/** Promise 12: unseal. */
public final class UnsealTest {
    private final Check check = new Check();

    public static void main(String[] args) {
        UnsealTest test = new UnsealTest();
        test.checkRefused();
        test.checkUnknown();
        test.checkWindow();
        test.checkWindowAgainstASet();
        test.checkForged();
        test.checkMartians();
        test.checkPolicy();
        test.checkNoFlow();
        test.check.end();
    }

    private static PacketGate sealing() {
        PacketGate gate = Check.gate("Si**,*,*");
        gate.header(250, 9, 4, 5);
        return gate;
    }

    private void checkRefused() {
        PacketGate gate = sealing();
        int[][] wrong = {{0, 0, 0}, {-1, 0, 0}, {10000, 0, 0}, {1, -1, 0}, {1, 3, 0}, {1, 0, -1}, {1, 0, 16},
            {Integer.MIN_VALUE, 0, 0}, {Integer.MAX_VALUE, 0, 0}};
        for (int[] a : wrong) {
            check.due("unseal " + a[0] + " " + a[1] + " " + a[2], gate.unseal(1, a[0], true, a[1], a[2]),
                    PacketGate.REFUSED);
            check.due("refused before unknown", gate.unseal(9, a[0], true, a[1], a[2]), PacketGate.REFUSED);
        }
        check.due("TOP", gate.count(9), 0);
        check.due("not let through", gate.count(5), 0);
        check.due("the least", gate.unseal(1, 1, true, 0, 0), PacketGate.PASSED);
        check.due("the greatest", gate.unseal(1, 9999, true, 2, 15), PacketGate.PASSED);
        check.due("TOP", gate.count(9), 9999);
        check.due("the least again", gate.unseal(1, 1, true, 0, 0), PacketGate.REPLAY);
    }

    private void checkUnknown() {
        PacketGate gate = sealing();
        int[] none = {0, -1, 2, Integer.MIN_VALUE, Integer.MAX_VALUE};
        for (int association : none) {
            check.due("association " + association, gate.unseal(association, 1, true, 1, 0), PacketGate.UNKNOWN);
            check.due("unknown before forged", gate.unseal(association, 1, false, 1, 0), PacketGate.UNKNOWN);
        }
        check.due("not let through", gate.count(5), 2 * none.length);
        check.due("TOP", gate.count(9), 0);
    }

    private void checkWindow() {
        PacketGate gate = sealing();
        check.due("unseal 100", gate.unseal(1, 100, true, 1, 0), PacketGate.PASSED);
        check.due("100 again", gate.unseal(1, 100, true, 1, 0), PacketGate.REPLAY);
        check.due("TOP - 32", gate.unseal(1, 68, true, 1, 0), PacketGate.REPLAY);
        check.due("TOP - 31", gate.unseal(1, 69, true, 1, 0), PacketGate.PASSED);
        check.due("TOP - 31 again", gate.unseal(1, 69, true, 1, 0), PacketGate.REPLAY);
        check.due("TOP stays", gate.count(9), 100);
        check.due("TOP + 31", gate.unseal(1, 131, true, 1, 0), PacketGate.PASSED);
        check.due("the old TOP", gate.unseal(1, 100, true, 1, 0), PacketGate.REPLAY);
        check.due("beside it", gate.unseal(1, 101, true, 1, 0), PacketGate.PASSED);
        check.due("TOP + 32", gate.unseal(1, 163, true, 1, 0), PacketGate.PASSED);
        check.due("nothing of the new window was accepted", gate.unseal(1, 132, true, 1, 0), PacketGate.PASSED);
        check.due("TOP + 64", gate.unseal(1, 227, true, 1, 0), PacketGate.PASSED);
        check.due("TOP - 31 of a new window", gate.unseal(1, 196, true, 1, 0), PacketGate.PASSED);
        check.due("an old one not authentic is a replay", gate.unseal(1, 196, false, 1, 0), PacketGate.REPLAY);
    }

    private void checkWindowAgainstASet() {
        Random random = new Random(2);
        for (int run = 0; run < 200; run++) {
            PacketGate gate = sealing();
            Set<Integer> accepted = new HashSet<>();
            int top = 0;
            for (int n = 0; n < 250; n++) {
                int sequence = Math.max(1, Math.min(9999, top + random.nextInt(90) - 60));
                boolean replay = sequence <= top - 32 || accepted.contains(sequence);
                check.due("run " + run + " sequence " + sequence + " at TOP " + top,
                        gate.unseal(1, sequence, true, 1, 0), replay ? PacketGate.REPLAY : PacketGate.PASSED);
                accepted.add(sequence);
                top = replay ? top : Math.max(top, sequence);
                check.due("TOP", gate.count(9), top);
            }
        }
    }

    private void checkForged() {
        PacketGate gate = sealing();
        check.due("forged", gate.unseal(1, 50, false, 1, 0), PacketGate.FORGED);
        check.due("TOP", gate.count(9), 0);
        check.due("not let through", gate.count(5), 1);
        check.due("emission", gate.emission(0), PacketGate.REFUSED);
        check.due("the true one", gate.unseal(1, 50, true, 1, 0), PacketGate.PASSED);
        gate.header(1, 1, 1, 1);
        check.due("forged before martian", gate.unseal(1, 51, false, 1, 0), PacketGate.FORGED);
    }

    private void checkMartians() {
        for (int address = 0; address <= 255; address++) {
            PacketGate gate = Check.gate("Si**,*,*");
            gate.header(address, 1, 4, 4);
            int fromIt = address >= 128 && address != 200 ? PacketGate.PASSED : PacketGate.MARTIAN;
            check.due("unseal from " + address, gate.unseal(1, 7, true, 1, 0), fromIt);
            check.due("counts as accepted", gate.unseal(1, 7, true, 1, 0), PacketGate.REPLAY);
            gate.header(150, 1, address, 4);
            int toIt = address <= 127 ? PacketGate.PASSED : PacketGate.MARTIAN;
            check.due("unseal to " + address, gate.unseal(1, 8, true, 1, 0), toIt);
            check.due("TOP", gate.count(9), 8);
        }
    }

    private void checkPolicy() {
        policy("Siu250,4,5", PacketGate.PASSED);
        policy("Sbu250,4,5", PacketGate.PASSED);
        policy("Sou250,4,5", PacketGate.DROPPED);
        policy("Sit250,4,5", PacketGate.DROPPED);
        policy("Siu249,4,5", PacketGate.DROPPED);
        policy("Siu250,5,5", PacketGate.DROPPED);
        policy("Siu250,4,9", PacketGate.DROPPED);
        policy("Piu*,*,*", PacketGate.DROPPED);
        policy("Diu*,*,*", PacketGate.DROPPED);
    }

    private void policy(String line, int want) {
        PacketGate gate = Check.gate(line);
        gate.header(250, 9, 4, 5);
        check.due(line, gate.unseal(1, 3, true, 1, 0), want);
        check.due(line + ": TOP", gate.count(9), 3);
        check.due(line + ": again", gate.unseal(1, 3, true, 1, 0), PacketGate.REPLAY);
        if (want == PacketGate.PASSED) {
            check.dueEmission(line, gate, 250, 9, 4, 5);
        } else {
            check.due(line + ": emission", gate.emission(0), PacketGate.REFUSED);
        }
    }

    private void checkNoFlow() {
        PacketGate gate = Check.gate("Si**,*,*", "Po**,*,*");
        Check.out(gate, 0, 1, 4, 5, 250, 9);
        gate.tick(2);
        gate.header(250, 9, 4, 5);
        check.due("a packet that would end the flow", gate.unseal(1, 1, true, 0, 8), PacketGate.PASSED);
        check.due("one that would answer it", gate.unseal(1, 2, true, 0, 3), PacketGate.PASSED);
        check.due("flows", gate.count(1), 1);
        check.due("the flow's state", gate.flow(0, 0), 1);
        check.due("the flow's LAST", gate.flow(0, 7), 0);
        check.due("SEQUENCE", gate.count(8), 0);
        gate.withdraw(1);
        check.due("the flow doesn't let it in", gate.unseal(1, 3, true, 0, 3), PacketGate.DROPPED);
    }
}
