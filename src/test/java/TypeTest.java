/** Promise 2: type. */
public final class TypeTest {
    private static final String ALLOWED = "PDSiobtue*-,0123456789";

    public static void main(String[] args) {
        Check check = new Check();
        for (int c = -300; c <= 70000; c++) {
            boolean allowed = c >= 0 && c < 128 && ALLOWED.indexOf(c) >= 0;
            PacketGate gate = new PacketGate();
            check.due("type(" + c + ")", gate.type(c), allowed ? 1 : PacketGate.REFUSED);
            check.due("length after type(" + c + ")", gate.count(10), allowed ? 1 : 0);
        }
        PacketGate gate = new PacketGate();
        check.due("least int", gate.type(Integer.MIN_VALUE), PacketGate.REFUSED);
        check.due("greatest int", gate.type(Integer.MAX_VALUE), PacketGate.REFUSED);
        for (int n = 1; n <= 40; n++) {
            check.due("character " + n, gate.type('*'), n);
        }
        check.due("character 41", gate.type('*'), PacketGate.FULL);
        check.due("a wrong character at a full line", gate.type('x'), PacketGate.REFUSED);
        check.due("length of a full line", gate.count(10), 40);
        gate.install();
        check.due("first character afterwards", gate.type('P'), 1);
        check.end();
    }
}
