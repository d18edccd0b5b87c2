/** Promise 1: a new object. */
public final class NewObjectTest {
    private static final int[] COUNTS = {0, 0, 0, 0, 0, 0, 0, 1, 0, 0, 0, -1};

    public static void main(String[] args) {
        Check check = new Check();
        PacketGate gate = new PacketGate();
        for (int what = 0; what < COUNTS.length; what++) {
            check.due("count(" + what + ")", gate.count(what), COUNTS[what]);
        }
        check.due("ruleText(1, 0)", gate.ruleText(1, 0), PacketGate.REFUSED);
        check.due("withdraw(1)", gate.withdraw(1), PacketGate.REFUSED);
        check.due("flow(0, 0)", gate.flow(0, 0), PacketGate.REFUSED);
        check.due("emission(0)", gate.emission(0), PacketGate.REFUSED);
        check.due("hide(0, 0)", gate.hide(0, 0), PacketGate.REFUSED);
        check.due("unseal under none before", gate.unseal(0, 1, true, 0, 0), PacketGate.UNKNOWN);
        checkHeaderIsZero(check);
        checkObjectsAreApart(check);
        check.end();
    }

    private static void checkHeaderIsZero(Check check) {
        PacketGate gate = Check.gate("Pb**,*,*", "Sb**,*,*");
        check.due("outward from 0 to 0", gate.outward(1, 0), PacketGate.MARTIAN);
        check.due("inward from 0 to 0", gate.inward(1, 0), PacketGate.MARTIAN);
        check.due("report of 0 to 0", gate.report(1), PacketGate.DROPPED);
    }

    private static void checkObjectsAreApart(Check check) {
        PacketGate one = Check.gate("Pb**,*,*");
        PacketGate other = new PacketGate();
        one.expose(0, 1, 1, 1);
        one.tick(5);
        one.rekey();
        check.due("rules of the other", other.count(0), 0);
        check.due("exposed mappings of the other", other.count(2), 0);
        check.due("time of the other", other.count(6), 0);
        check.due("association of the other", other.count(7), 1);
    }
}
