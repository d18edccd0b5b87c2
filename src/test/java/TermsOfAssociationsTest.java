/** Terms: associations. */
public final class TermsOfAssociationsTest {
    public static void main(String[] args) {
        Check check = new Check("Terms");
        check.sentence("ASSOCIATIONS have numbers; number 1 is the CURRENT one at first.",
                TermsOfAssociationsTest::number1AtFirst);
        check.sentence("Each has a SEQUENCE (how many packets were sealed under it)",
                TermsOfAssociationsTest::eachHasASequence);
        check.sentence("and the sequence numbers accepted under it", TermsOfAssociationsTest::eachHasAcceptedNumbers);
        check.sentence("with their greatest, TOP (0 if none).", TermsOfAssociationsTest::topIsTheGreatest);
        check.sentence("The one before the CURRENT stays until its END, a time.",
                TermsOfAssociationsTest::oneBeforeStaysUntilItsEnd);
        check.end();
    }

    private static void number1AtFirst(Check check) {
        PacketGate gate = Gates.sealing();
        check.due("CURRENT", gate.count(7), 1);
        check.due("unseal under 1", Gates.unseal(gate, 1, 1), PacketGate.PASSED);
        for (int number : Gates.notWithin(1, 1)) {
            check.due("unseal under " + number, Gates.unseal(gate, number, 2), PacketGate.UNKNOWN);
        }
        Gates.out(gate, 1, 0, 4, 5, 150, 9);
        check.dueEmission("a seal", gate, 200, 1, 250, 1);
    }

    private static void eachHasASequence(Check check) {
        PacketGate gate = Gates.sealing();
        check.due("SEQUENCE at first", gate.count(8), 0);
        for (int number = 1; number <= 3; number++) {
            for (int n = 1; n <= 3 * number; n++) {
                Gates.out(gate, n % 3, 0, 4, 5, 150, 9);
                check.due("SEQUENCE of " + number, gate.count(8), n);
            }
            gate.header(250, 9, 4, 5);
            Gates.unseal(gate, number, 77);
            check.due("SEQUENCE when one was unsealed", gate.count(8), 3 * number);
            gate.rekey();
            check.due("SEQUENCE of the next", gate.count(8), 0);
        }
    }

    private static void eachHasAcceptedNumbers(Check check) {
        PacketGate gate = Gates.sealing();
        for (int number = 1; number <= 5; number++) {
            check.due("5 under " + number, Gates.unseal(gate, number, 5), PacketGate.PASSED);
            check.due("5 again", Gates.unseal(gate, number, 5), PacketGate.REPLAY);
            check.due("7 under " + number, Gates.unseal(gate, number, 7), PacketGate.PASSED);
            gate.rekey();
            check.due("5 under the one before", Gates.unseal(gate, number, 5), PacketGate.REPLAY);
            check.due("6 under the one before", Gates.unseal(gate, number, 6), PacketGate.PASSED);
            check.due("7 under the one before", Gates.unseal(gate, number, 7), PacketGate.REPLAY);
        }
    }

    private static void topIsTheGreatest(Check check) {
        PacketGate gate = Gates.sealing();
        check.due("TOP at first", gate.count(9), 0);
        int[] sequences = {1, 20, 3, 19, 21, 9998, 9999, 9990};
        int[] tops = {1, 20, 20, 20, 21, 9998, 9999, 9999};
        for (int n = 0; n < sequences.length; n++) {
            check.due("unseal " + sequences[n], Gates.unseal(gate, 1, sequences[n]), PacketGate.PASSED);
            check.due("TOP", gate.count(9), tops[n]);
        }
        gate.rekey();
        check.due("TOP of a new one", gate.count(9), 0);
        Gates.unseal(gate, 1, 9991);
        check.due("TOP when one came under the one before", gate.count(9), 0);
    }

    private static void oneBeforeStaysUntilItsEnd(Check check) {
        PacketGate gate = Gates.sealing();
        gate.rekey();
        check.due("at once", Gates.unseal(gate, 1, 1), PacketGate.PASSED);
        gate.tick(19);
        check.due("one before END", Gates.unseal(gate, 1, 2), PacketGate.PASSED);
        gate.tick(1);
        check.due("at END", Gates.unseal(gate, 1, 3), PacketGate.UNKNOWN);
        gate.tick(1);
        check.due("behind END", Gates.unseal(gate, 1, 3), PacketGate.UNKNOWN);
    }
}
