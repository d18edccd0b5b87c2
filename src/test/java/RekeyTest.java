/** Promise 13: rekey. */
public final class RekeyTest {
    public static void main(String[] args) {
        Check check = new Check();
        checkNumbers(check);
        checkBefore(check);
        checkEnd(check);
        checkManyTimes(check);
        checkNothingIsLeftOfOldOnes(check);
        check.end();
    }

    private static PacketGate sealing() {
        PacketGate gate = Check.gate("Sb**,*,*");
        gate.header(250, 9, 4, 5);
        return gate;
    }

    private static void checkNumbers(Check check) {
        PacketGate gate = sealing();
        gate.unseal(1, 30, true, 1, 0);
        Check.out(gate, 1, 0, 4, 5, 150, 9);
        check.due("rekey()", gate.rekey(), 2);
        check.due("CURRENT", gate.count(7), 2);
        check.due("SEQUENCE", gate.count(8), 0);
        check.due("TOP", gate.count(9), 0);
        check.due("a seal", gate.outward(1, 0), PacketGate.SEALED);
        check.dueEmission("a seal", gate, 200, 2, 250, 1);
        check.due("rekey() again", gate.rekey(), 3);
        check.due("rekey is no packet", gate.count(4), 3);
    }

    private static void checkBefore(Check check) {
        PacketGate gate = sealing();
        gate.unseal(1, 30, true, 1, 0);
        gate.rekey();
        check.due("a replay under the one before", gate.unseal(1, 30, true, 1, 0), PacketGate.REPLAY);
        check.due("a new one under it", gate.unseal(1, 40, true, 1, 0), PacketGate.PASSED);
        check.due("CURRENT's TOP", gate.count(9), 0);
        check.due("its window has moved", gate.unseal(1, 8, true, 1, 0), PacketGate.REPLAY);
        check.due("30 under the CURRENT one", gate.unseal(2, 30, true, 1, 0), PacketGate.PASSED);
        check.due("CURRENT's TOP", gate.count(9), 30);
        gate.rekey();
        check.due("1 is gone though its END is not come", gate.unseal(1, 41, true, 1, 0), PacketGate.UNKNOWN);
        check.due("2 is the one before", gate.unseal(2, 30, true, 1, 0), PacketGate.REPLAY);
        check.due("3 has accepted nothing", gate.unseal(3, 30, true, 1, 0), PacketGate.PASSED);
        check.due("4 is not yet", gate.unseal(4, 1, true, 1, 0), PacketGate.UNKNOWN);
    }

    private static void checkEnd(Check check) {
        PacketGate gate = sealing();
        gate.tick(7);
        gate.rekey();
        gate.tick(19);
        check.due("at END - 1", gate.unseal(1, 1, true, 1, 0), PacketGate.PASSED);
        gate.tick(1);
        check.due("at END", gate.unseal(1, 2, true, 1, 0), PacketGate.UNKNOWN);
        check.due("the CURRENT one has no end", gate.unseal(2, 1, true, 1, 0), PacketGate.PASSED);
        gate.rekey();
        check.due("2 as the one before", gate.unseal(2, 2, true, 1, 0), PacketGate.PASSED);
        gate.tick(20);
        check.due("2 at its END", gate.unseal(2, 3, true, 1, 0), PacketGate.UNKNOWN);
        gate.tick(100);
        check.due("3 long afterwards", gate.unseal(3, 1, true, 1, 0), PacketGate.PASSED);
    }

    private static void checkNothingIsLeftOfOldOnes(Check check) {
        PacketGate gate = sealing();
        for (int number = 1; number <= 5; number++) {
            check.due("SEQUENCE of " + number, gate.count(8), 0);
            check.due("TOP of " + number, gate.count(9), 0);
            gate.header(250, 9, 4, 5);
            check.due("1 under " + number, gate.unseal(number, 1, true, 1, 0), PacketGate.PASSED);
            check.due("70 under " + number, gate.unseal(number, 70, true, 1, 0), PacketGate.PASSED);
            gate.header(4, 5, 150, 9);
            check.due("a seal under " + number, gate.outward(1, 0), PacketGate.SEALED);
            check.dueEmission("a seal under " + number, gate, 200, number, 250, 1);
            gate.rekey();
        }
    }

    private static void checkManyTimes(Check check) {
        PacketGate gate = sealing();
        gate.header(4, 5, 150, 9);
        for (int number = 2; number <= 300; number++) {
            check.due("rekey() to " + number, gate.rekey(), number);
        }
        check.due("a seal", gate.outward(1, 0), PacketGate.SEALED);
        check.dueEmission("a seal", gate, 200, 300, 250, 1);
        for (int n = 2; n <= 40; n++) {
            gate.outward(1, 0);
        }
        check.due("exhausted", gate.outward(1, 0), PacketGate.EXHAUSTED);
        gate.rekey();
        check.due("a new one seals", gate.outward(1, 0), PacketGate.SEALED);
    }
}
