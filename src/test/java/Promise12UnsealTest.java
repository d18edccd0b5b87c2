import java.util.HashSet;
import java.util.Random;
import java.util.Set;

/** Promise 12: unseal. */
public final class Promise12UnsealTest {
    public static void main(String[] args) {
        Check check = new Check("Promise 12: unseal");
        check.sentence("sequence not 1 .. 9999", Promise12UnsealTest::sequenceOutOfRange);
        check.sentence("protocol or flags out of range: REFUSED.", Promise12UnsealTest::protocolOrFlagsOutOfRange);
        check.sentence("The association is neither the CURRENT one", Promise12UnsealTest::notTheCurrentOne);
        check.sentence("nor the one before with its END above TIME: UNKNOWN.", Promise12UnsealTest::oneBeforeAtItsEnd);
        check.sentence("sequence is not above TOP - 32", Promise12UnsealTest::notAboveTopLess32);
        check.sentence("or was accepted: REPLAY.", Promise12UnsealTest::wasAccepted);
        check.sentence("or was accepted: REPLAY.", Promise12UnsealTest::windowAgainstASet);
        check.sentence("Not authentic: FORGED.", Promise12UnsealTest::forged);
        check.sentence("Then the sequence number counts as accepted, whatever follows.",
                Promise12UnsealTest::countsAsAccepted);
        check.sentence("The source isn't OUTSIDE or the target isn't INSIDE: MARTIAN.", Promise12UnsealTest::martian);
        check.sentence("The POLICY (inward) isn't seal: DROPPED.", Promise12UnsealTest::policy);
        check.sentence("Else PASSED, the EMISSION is the HEADER.", Promise12UnsealTest::emission);
        check.sentence("No flow is looked for.", Promise12UnsealTest::noFlowIsLookedFor);
        check.end();
    }

    private static void sequenceOutOfRange(Check check) {
        PacketGate gate = Gates.sealing();
        for (int sequence : Gates.notWithin(1, 9999)) {
            check.due("unseal " + sequence, Gates.unseal(gate, 1, sequence), PacketGate.REFUSED);
            check.due("under an unknown one", Gates.unseal(gate, 9, sequence), PacketGate.REFUSED);
        }
        check.due("TOP", gate.count(9), 0);
        check.due("not let through", gate.count(5), 0);
        check.due("the least", Gates.unseal(gate, 1, 1), PacketGate.PASSED);
        check.due("the greatest", Gates.unseal(gate, 1, 9999), PacketGate.PASSED);
        check.due("TOP", gate.count(9), 9999);
        check.due("one more than the greatest", Gates.unseal(gate, 1, 10000), PacketGate.REFUSED);
    }

    private static void protocolOrFlagsOutOfRange(Check check) {
        PacketGate gate = Gates.sealing();
        for (int protocol : Gates.notWithin(0, 2)) {
            check.due("protocol " + protocol, gate.unseal(1, 5, true, protocol, 0), PacketGate.REFUSED);
        }
        for (int flags : Gates.notWithin(0, 15)) {
            check.due("flags " + flags, gate.unseal(1, 5, true, 1, flags), PacketGate.REFUSED);
        }
        check.due("TOP", gate.count(9), 0);
        check.due("not let through", gate.count(5), 0);
        check.due("the least", gate.unseal(1, 5, true, 0, 0), PacketGate.PASSED);
        check.due("the greatest", gate.unseal(1, 6, true, 2, 15), PacketGate.PASSED);
    }

    private static void notTheCurrentOne(Check check) {
        PacketGate gate = Gates.sealing();
        for (int association : Gates.notWithin(1, 1)) {
            check.due("association " + association, Gates.unseal(gate, association, 1), PacketGate.UNKNOWN);
            check.due("not authentic", gate.unseal(association, 1, false, 1, 0), PacketGate.UNKNOWN);
        }
        check.due("not let through", gate.count(5), 18);
        check.due("TOP", gate.count(9), 0);
        gate.rekey();
        gate.rekey();
        check.due("two before", Gates.unseal(gate, 1, 1), PacketGate.UNKNOWN);
        check.due("the CURRENT one", Gates.unseal(gate, 3, 1), PacketGate.PASSED);
        check.due("the next", Gates.unseal(gate, 4, 1), PacketGate.UNKNOWN);
        check.due("wrapped", Gates.unseal(gate, 3 + 256, 2), PacketGate.UNKNOWN);
    }

    private static void oneBeforeAtItsEnd(Check check) {
        PacketGate gate = Gates.sealing();
        gate.tick(7);
        gate.rekey();
        check.due("at once", Gates.unseal(gate, 1, 1), PacketGate.PASSED);
        gate.tick(19);
        check.due("END is TIME + 1", Gates.unseal(gate, 1, 2), PacketGate.PASSED);
        gate.tick(1);
        check.due("END is TIME", Gates.unseal(gate, 1, 3), PacketGate.UNKNOWN);
        gate.tick(1);
        check.due("END is TIME - 1", Gates.unseal(gate, 1, 3), PacketGate.UNKNOWN);
        check.due("the CURRENT one has no end", Gates.unseal(gate, 2, 1), PacketGate.PASSED);
    }

    private static void notAboveTopLess32(Check check) {
        PacketGate gate = Gates.sealing();
        Gates.unseal(gate, 1, 100);
        int[] old = {1, 36, 67, 68};
        for (int sequence : old) {
            check.due("TOP 100 and " + sequence, Gates.unseal(gate, 1, sequence), PacketGate.REPLAY);
            check.due("not authentic", gate.unseal(1, sequence, false, 1, 0), PacketGate.REPLAY);
        }
        for (int sequence = 69; sequence <= 99; sequence++) {
            check.due("TOP 100 and " + sequence, Gates.unseal(gate, 1, sequence), PacketGate.PASSED);
        }
        check.due("TOP", gate.count(9), 100);
        PacketGate low = Gates.sealing();
        check.due("32", Gates.unseal(low, 1, 32), PacketGate.PASSED);
        check.due("TOP 32 and 1", Gates.unseal(low, 1, 1), PacketGate.PASSED);
        PacketGate next = Gates.sealing();
        check.due("33", Gates.unseal(next, 1, 33), PacketGate.PASSED);
        check.due("TOP 33 and 1", Gates.unseal(next, 1, 1), PacketGate.REPLAY);
        check.due("TOP 33 and 2", Gates.unseal(next, 1, 2), PacketGate.PASSED);
    }

    private static void wasAccepted(Check check) {
        int[] steps = {1, 2, 30, 31, 32, 33, 34, 63, 64, 65, 96, 1000, 9899};
        Set<Integer> first = new HashSet<>(Set.of(100, 99, 97, 85, 70, 69));
        for (int step : steps) {
            PacketGate gate = Gates.sealing();
            Gates.unseal(gate, 1, 100);
            for (int sequence : first) {
                check.due(sequence + " at first", Gates.unseal(gate, 1, sequence),
                        sequence == 100 ? PacketGate.REPLAY : PacketGate.PASSED);
            }
            int top = 100 + step;
            check.due(top + " when TOP is 100", Gates.unseal(gate, 1, top), PacketGate.PASSED);
            check.due(top + " again", Gates.unseal(gate, 1, top), PacketGate.REPLAY);
            check.due("100 when TOP is " + top, Gates.unseal(gate, 1, 100), PacketGate.REPLAY);
            for (int sequence = top - 31; sequence < top; sequence++) {
                check.due(sequence + " when TOP is " + top, Gates.unseal(gate, 1, sequence),
                        first.contains(sequence) ? PacketGate.REPLAY : PacketGate.PASSED);
                check.due(sequence + " again", Gates.unseal(gate, 1, sequence), PacketGate.REPLAY);
            }
        }
    }

    private static void windowAgainstASet(Check check) {
        Random random = new Random(2);
        for (int run = 0; run < 200; run++) {
            PacketGate gate = Gates.sealing();
            Set<Integer> accepted = new HashSet<>();
            int top = 0;
            for (int n = 0; n < 250; n++) {
                int sequence = Math.max(1, Math.min(9999, top + step(random)));
                boolean replay = sequence <= top - 32 || accepted.contains(sequence);
                check.due("run " + run + " sequence " + sequence + " at TOP " + top, Gates.unseal(gate, 1, sequence),
                        replay ? PacketGate.REPLAY : PacketGate.PASSED);
                accepted.add(sequence);
                top = replay ? top : Math.max(top, sequence);
                check.due("TOP", gate.count(9), top);
            }
        }
    }

    /** Mostly back into the window, now and then far enough to leave it behind. */
    private static int step(Random random) {
        return random.nextInt(12) == 0 ? 28 + random.nextInt(10) : random.nextInt(50) - 40;
    }

    private static void forged(Check check) {
        PacketGate gate = Gates.sealing();
        check.due("forged", gate.unseal(1, 50, false, 1, 0), PacketGate.FORGED);
        check.due("TOP", gate.count(9), 0);
        check.due("not let through", gate.count(5), 1);
        check.due("emission", gate.emission(0), PacketGate.REFUSED);
        check.due("the true one", Gates.unseal(gate, 1, 50), PacketGate.PASSED);
        check.due("one of the window forged", gate.unseal(1, 49, false, 1, 0), PacketGate.FORGED);
        check.due("the true one", Gates.unseal(gate, 1, 49), PacketGate.PASSED);
        gate.rekey();
        check.due("forged under the one before", gate.unseal(1, 51, false, 1, 0), PacketGate.FORGED);
        check.due("the true one", Gates.unseal(gate, 1, 51), PacketGate.PASSED);
    }

    private static void countsAsAccepted(Check check) {
        PacketGate gate = Gates.gate("Siu*,4,*");
        gate.header(5, 1, 4, 4);
        check.due("a martian", Gates.unseal(gate, 1, 40), PacketGate.MARTIAN);
        check.due("TOP", gate.count(9), 40);
        gate.header(150, 1, 5, 4);
        check.due("one that is dropped", Gates.unseal(gate, 1, 90), PacketGate.DROPPED);
        check.due("TOP", gate.count(9), 90);
        check.due("one below TOP that is dropped", Gates.unseal(gate, 1, 80), PacketGate.DROPPED);
        gate.header(150, 1, 4, 4);
        check.due("40 again", Gates.unseal(gate, 1, 40), PacketGate.REPLAY);
        check.due("90 again", Gates.unseal(gate, 1, 90), PacketGate.REPLAY);
        check.due("80 again", Gates.unseal(gate, 1, 80), PacketGate.REPLAY);
        check.due("81", Gates.unseal(gate, 1, 81), PacketGate.PASSED);
    }

    private static void martian(Check check) {
        for (int address = 0; address <= 255; address++) {
            PacketGate gate = Gates.sealing();
            gate.header(address, 1, 4, 4);
            check.due("unseal from " + address, Gates.unseal(gate, 1, 7),
                    address >= 128 && address != 200 ? PacketGate.PASSED : PacketGate.MARTIAN);
            gate.header(150, 1, address, 4);
            check.due("unseal to " + address, Gates.unseal(gate, 1, 8),
                    address <= 127 ? PacketGate.PASSED : PacketGate.MARTIAN);
        }
    }

    private static void policy(Check check) {
        policy(check, "Siu250,4,5", PacketGate.PASSED);
        policy(check, "Sbu250,4,5", PacketGate.PASSED);
        policy(check, "Si*250,4,5", PacketGate.PASSED);
        policy(check, "Sou250,4,5", PacketGate.DROPPED);
        policy(check, "Sit250,4,5", PacketGate.DROPPED);
        policy(check, "Siu249,4,5", PacketGate.DROPPED);
        policy(check, "Siu250,5,5", PacketGate.DROPPED);
        policy(check, "Siu250,4,9", PacketGate.DROPPED);
        policy(check, "Piu*,*,*", PacketGate.DROPPED);
        policy(check, "Diu*,*,*", PacketGate.DROPPED);
    }

    private static void policy(Check check, String line, int want) {
        PacketGate gate = Gates.gate(line);
        gate.header(250, 9, 4, 5);
        check.due(line, Gates.unseal(gate, 1, 3), want);
        check.due(line + ": emission", gate.emission(3), want == PacketGate.PASSED ? 5 : PacketGate.REFUSED);
    }

    private static void emission(Check check) {
        PacketGate gate = Gates.sealing();
        gate.header(128, 255, 127, 0);
        check.due("unseal", Gates.unseal(gate, 1, 1), PacketGate.PASSED);
        check.dueEmission("unseal", gate, 128, 255, 127, 0);
        check.due("let through", gate.count(4), 1);
        gate.rekey();
        gate.header(255, 0, 0, 255);
        Gates.unseal(gate, 1, 2);
        check.dueEmission("unseal under the one before", gate, 255, 0, 0, 255);
    }

    private static void noFlowIsLookedFor(Check check) {
        PacketGate gate = Gates.gate("Si**,*,*", "Po**,*,*");
        Gates.out(gate, 0, 1, 4, 5, 250, 9);
        gate.tick(2);
        gate.header(250, 9, 4, 5);
        check.due("a packet that would end the flow", gate.unseal(1, 1, true, 0, 8), PacketGate.PASSED);
        check.due("one that would answer it", gate.unseal(1, 2, true, 0, 3), PacketGate.PASSED);
        check.due("one that doesn't fit it", gate.unseal(1, 3, true, 0, 5), PacketGate.PASSED);
        check.due("flows", gate.count(1), 1);
        check.dueFlow(gate, 0, 1, 0, 4, 5, 250, 9, 100, 0);
        check.due("SEQUENCE", gate.count(8), 0);
        gate.withdraw(1);
        check.due("the flow doesn't let it in", gate.unseal(1, 4, true, 0, 3), PacketGate.DROPPED);
    }
}
