/** What it is: how long an object is used. */
public final class UseTest {
    private static final int CALLS = 512;

    public static void main(String[] args) {
        Check check = new Check("What it is");
        check.sentence("An object is used for at most 512 calls after it has been made", UseTest::allOf512CallsAnswer);
        check.sentence("what later calls answer is free", UseTest::laterCallsEnd);
        check.end();
    }

    private static void allOf512CallsAnswer(Check check) {
        PacketGate ticking = new PacketGate();
        PacketGate rekeyed = new PacketGate();
        PacketGate knocked = new PacketGate();
        PacketGate typed = new PacketGate();
        for (int n = 1; n <= CALLS; n++) {
            check.due("tick " + n, ticking.tick(100), 100 * n);
            check.due("rekey " + n, rekeyed.rekey(), n + 1);
            check.due("type " + n, typed.type('9'), n <= 40 ? n : PacketGate.FULL);
            check.due("packet " + n, n < CALLS ? knocked.outward(0, 0) : knocked.count(5),
                    n < CALLS ? PacketGate.MARTIAN : CALLS - 1);
        }
    }

    /** Free as the answers are, no call throws, which would end this test. */
    private static void laterCallsEnd(Check check) {
        PacketGate gate = Gates.exposing();
        for (int n = 0; n < 3000; n++) {
            gate.type('P');
            gate.install();
            gate.header(7, 80, 150, n % 256);
            gate.outward(1, 0);
            gate.tick(100);
            gate.rekey();
            gate.unseal(gate.count(7), 1 + n, true, 1, 0);
            gate.flow(n % 20, n % 9);
        }
        check.holds("3000 rounds have ended", true);
    }
}
