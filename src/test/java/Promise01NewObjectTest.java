/** Promise 1: a new object. */
public final class Promise01NewObjectTest {
    private static final int[] COUNTS = {0, 0, 0, 0, 0, 0, 0, 1, 0, 0, 0, -1};

    public static void main(String[] args) {
        Check check = new Check("Promise 1: A new object");
        check.sentence("No rules, mappings or flows.", Promise01NewObjectTest::noRules);
        check.sentence("No rules, mappings or flows.", Promise01NewObjectTest::noMappings);
        check.sentence("No rules, mappings or flows.", Promise01NewObjectTest::noFlows);
        check.sentence("`PacketGate()`", Promise01NewObjectTest::countsAtFirst);
        check.sentence("`PacketGate()`", Promise01NewObjectTest::objectsAreApart);
        check.end();
    }

    private static void noRules(Check check) {
        PacketGate gate = new PacketGate();
        check.due("rules", gate.count(0), 0);
        check.due("ruleText(1, 0)", gate.ruleText(1, 0), PacketGate.REFUSED);
        check.due("withdraw(1)", gate.withdraw(1), PacketGate.REFUSED);
        check.due("outward", Gates.out(gate, 1, 0, 5, 5, 150, 1), PacketGate.DROPPED);
    }

    private static void noMappings(Check check) {
        PacketGate gate = Gates.gate("Pi**,*,*");
        check.due("exposed mappings", gate.count(2), 0);
        check.due("other mappings", gate.count(3), 0);
        for (int port = 0; port < 120; port++) {
            int protocol = port % 3;
            check.due("hide of " + port, gate.hide(protocol, port), PacketGate.REFUSED);
            check.due("inward to " + port, Gates.in(gate, protocol, Gates.SYN, 150, 1, port), PacketGate.DROPPED);
        }
    }

    private static void noFlows(Check check) {
        PacketGate gate = new PacketGate();
        check.due("flows", gate.count(1), 0);
        for (int i = 0; i < 16; i++) {
            check.due("flow " + i, gate.flow(i, 0), PacketGate.REFUSED);
        }
        gate.header(200, 100, 150, 1);
        check.due("report", gate.report(1), PacketGate.DROPPED);
    }

    private static void countsAtFirst(Check check) {
        PacketGate gate = new PacketGate();
        for (int what = 0; what < COUNTS.length; what++) {
            check.due("count(" + what + ")", gate.count(what), COUNTS[what]);
        }
        check.due("emission(0)", gate.emission(0), PacketGate.REFUSED);
    }

    private static void objectsAreApart(Check check) {
        PacketGate one = Gates.exposing();
        PacketGate other = new PacketGate();
        one.tick(5);
        one.rekey();
        Gates.packet(one, true, 1, 0);
        Gates.type(one, "Pot");
        for (int what = 0; what < COUNTS.length; what++) {
            check.due("count(" + what + ") of the other", other.count(what), COUNTS[what]);
        }
    }
}
