/** Promise 13: rekey. */
public final class Promise13RekeyTest {
    public static void main(String[] args) {
        Check check = new Check("Promise 13: rekey");
        check.sentence("A new association becomes the CURRENT one, with the next number", Promise13RekeyTest::nextNumber);
        check.sentence("A new association becomes the CURRENT one", Promise13RekeyTest::nothingIsLeftOfOldOnes);
        check.sentence("that which was CURRENT becomes the one before", Promise13RekeyTest::becomesTheOneBefore);
        check.sentence("with END the TIME now + 20", Promise13RekeyTest::endIsTimeAnd20);
        check.sentence("and what was the one before is gone.", Promise13RekeyTest::oneBeforeIsGone);
        check.sentence("Answers the new number.", Promise13RekeyTest::answersTheNewNumber);
        check.end();
    }

    private static void nextNumber(Check check) {
        PacketGate gate = Gates.sealing();
        Gates.unseal(gate, 1, 30);
        Gates.out(gate, 1, 0, 4, 5, 150, 9);
        gate.rekey();
        check.due("CURRENT", gate.count(7), 2);
        check.due("SEQUENCE", gate.count(8), 0);
        check.due("TOP", gate.count(9), 0);
        check.due("a seal", gate.outward(1, 0), PacketGate.SEALED);
        check.dueEmission("a seal", gate, 200, 2, 250, 1);
        check.due("rekey is no packet", gate.count(4), 3);
    }

    private static void nothingIsLeftOfOldOnes(Check check) {
        PacketGate gate = Gates.sealing();
        for (int number = 1; number <= 5; number++) {
            check.due("SEQUENCE of " + number, gate.count(8), 0);
            check.due("TOP of " + number, gate.count(9), 0);
            gate.header(250, 9, 4, 5);
            check.due("1 under " + number, Gates.unseal(gate, number, 1), PacketGate.PASSED);
            check.due("20 under " + number, Gates.unseal(gate, number, 20), PacketGate.PASSED);
            check.due("70 under " + number, Gates.unseal(gate, number, 70), PacketGate.PASSED);
            gate.header(4, 5, 150, 9);
            check.due("a seal under " + number, gate.outward(1, 0), PacketGate.SEALED);
            check.dueEmission("a seal under " + number, gate, 200, number, 250, 1);
            gate.rekey();
        }
    }

    private static void becomesTheOneBefore(Check check) {
        PacketGate gate = Gates.sealing();
        Gates.unseal(gate, 1, 30);
        gate.rekey();
        check.due("a replay under it", Gates.unseal(gate, 1, 30), PacketGate.REPLAY);
        check.due("a new one under it", Gates.unseal(gate, 1, 40), PacketGate.PASSED);
        check.due("CURRENT's TOP", gate.count(9), 0);
        check.due("its window has moved", Gates.unseal(gate, 1, 8), PacketGate.REPLAY);
        check.due("30 under the CURRENT one", Gates.unseal(gate, 2, 30), PacketGate.PASSED);
        check.due("CURRENT's TOP", gate.count(9), 30);
    }

    private static void endIsTimeAnd20(Check check) {
        int[] starts = {0, 1, 20, 99};
        for (int start : starts) {
            PacketGate gate = Gates.sealing();
            if (start > 0) {
                gate.tick(start);
            }
            gate.rekey();
            gate.tick(19);
            check.due("at END - 1", Gates.unseal(gate, 1, 1), PacketGate.PASSED);
            gate.tick(1);
            check.due("at END", Gates.unseal(gate, 1, 2), PacketGate.UNKNOWN);
            gate.rekey();
            gate.tick(19);
            check.due("the next at its END - 1", Gates.unseal(gate, 2, 1), PacketGate.PASSED);
            gate.tick(1);
            check.due("the next at its END", Gates.unseal(gate, 2, 2), PacketGate.UNKNOWN);
        }
        PacketGate far = Gates.sealing();
        far.rekey();
        far.tick(100);
        check.due("far behind END", Gates.unseal(far, 1, 1), PacketGate.UNKNOWN);
        check.due("the CURRENT one has no END", Gates.unseal(far, 2, 1), PacketGate.PASSED);
    }

    private static void oneBeforeIsGone(Check check) {
        PacketGate gate = Gates.sealing();
        gate.rekey();
        gate.tick(5);
        check.due("1 before the second rekey", Gates.unseal(gate, 1, 1), PacketGate.PASSED);
        gate.rekey();
        check.due("1 though its END is not come", Gates.unseal(gate, 1, 2), PacketGate.UNKNOWN);
        check.due("2", Gates.unseal(gate, 2, 1), PacketGate.PASSED);
        check.due("3", Gates.unseal(gate, 3, 1), PacketGate.PASSED);
        check.due("4", Gates.unseal(gate, 4, 1), PacketGate.UNKNOWN);
    }

    private static void answersTheNewNumber(Check check) {
        PacketGate gate = Gates.sealing();
        gate.header(4, 5, 150, 9);
        for (int number = 2; number <= 300; number++) {
            check.due("rekey() to " + number, gate.rekey(), number);
        }
        check.due("CURRENT", gate.count(7), 300);
        gate.outward(1, 0);
        check.dueEmission("a seal under a number above 255", gate, 200, 300, 250, 1);
    }
}
