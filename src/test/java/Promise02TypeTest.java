/** Promise 2: type. */
public final class Promise02TypeTest {
    private static final String ALLOWED = "PDSiobtue*-,0123456789";

    public static void main(String[] args) {
        Check check = new Check("Promise 2: type");
        check.sentence("Adds a character (its code) to the line.", Promise02TypeTest::addsACharacter);
        check.sentence("Not one of P D S i o b t u e * - , and the digits: REFUSED", Promise02TypeTest::notAllowed);
        check.sentence("else, it has 40: FULL.", Promise02TypeTest::fullAt40);
        check.sentence("Answers the line's length.", Promise02TypeTest::answersTheLength);
        check.end();
    }

    private static void addsACharacter(Check check) {
        String[] lines = {"Pit0,1,2", "Dou3-4,5,6", "Sbe7,8-9,*", "Pb**,*,10"};
        PacketGate gate = new PacketGate();
        for (int n = 0; n < lines.length; n++) {
            Gates.type(gate, lines[n]);
            check.due("length", gate.count(10), lines[n].length());
            gate.install();
            check.dueRule(gate, n + 1, lines[n]);
        }
    }

    private static void notAllowed(Check check) {
        for (int c = -300; c <= 70000; c++) {
            dueFor(check, c, c >= 0 && c < 128 && ALLOWED.indexOf(c) >= 0);
        }
        for (int i = 0; i < ALLOWED.length(); i++) {
            int c = ALLOWED.charAt(i);
            int[] wrapped = {c + 256, c - 256, c + 65536, c - 65536, c + (1 << 24), c | Integer.MIN_VALUE};
            for (int wrong : wrapped) {
                dueFor(check, wrong, false);
            }
        }
        dueFor(check, Integer.MIN_VALUE, false);
        dueFor(check, Integer.MAX_VALUE, false);
    }

    private static void dueFor(Check check, int c, boolean allowed) {
        PacketGate gate = new PacketGate();
        check.due("type(" + c + ")", gate.type(c), allowed ? 1 : PacketGate.REFUSED);
        check.due("length after type(" + c + ")", gate.count(10), allowed ? 1 : 0);
    }

    private static void fullAt40(Check check) {
        PacketGate gate = new PacketGate();
        for (int n = 1; n <= 39; n++) {
            gate.type('*');
        }
        check.due("the 40th", gate.type('*'), 40);
        for (int i = 0; i < ALLOWED.length(); i++) {
            check.due("a 41st", gate.type(ALLOWED.charAt(i)), PacketGate.FULL);
        }
        check.due("a wrong one", gate.type('x'), PacketGate.REFUSED);
        check.due("length", gate.count(10), 40);
        gate.install();
        check.due("the first of the next line", gate.type('*'), 1);
    }

    private static void answersTheLength(Check check) {
        PacketGate gate = new PacketGate();
        for (int n = 1; n <= 40; n++) {
            check.due("character " + n, gate.type(ALLOWED.charAt(n % ALLOWED.length())), n);
            check.due("length", gate.count(10), n);
        }
    }
}
