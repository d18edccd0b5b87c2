/** Promise 15: emission. */
public final class Promise15EmissionTest {
    public static void main(String[] args) {
        Check check = new Check("Promise 15: emission");
        check.sentence("Of the EMISSION of the latest packet that was PASSED or SEALED",
                Promise15EmissionTest::latestPacketLetThrough);
        check.sentence("that was PASSED or SEALED", Promise15EmissionTest::othersLeaveIt);
        check.sentence("source address (0) and port (1), target address (2) and port (3).",
                Promise15EmissionTest::fields);
        check.sentence("No such packet yet", Promise15EmissionTest::noPacketYet);
        check.sentence("another field: REFUSED.", Promise15EmissionTest::anotherField);
        check.end();
    }

    /** A gate that seals from and to 99 and permits the rest, with 7 port 80 exposed under 22. */
    private static PacketGate gate() {
        PacketGate gate = Gates.gate("Sou99,*,*", "Siu*,99,*", "Pb**,*,*");
        gate.expose(1, 22, 7, 80);
        return gate;
    }

    private static void latestPacketLetThrough(Check check) {
        PacketGate gate = gate();
        Gates.out(gate, 1, 0, 5, 6, 150, 8);
        check.dueEmission("outward", gate, 200, 100, 150, 8);
        Gates.in(gate, 1, 0, 151, 9, 22);
        check.dueEmission("inward", gate, 151, 9, 7, 80);
        gate.header(200, 100, 150, 8);
        gate.report(1);
        check.dueEmission("report", gate, 5, 6, 150, 8);
        Gates.out(gate, 1, 0, 99, 1, 160, 2);
        check.dueEmission("a seal", gate, 200, 1, 250, 1);
        gate.header(250, 3, 99, 4);
        Gates.unseal(gate, 1, 1);
        check.dueEmission("unseal", gate, 250, 3, 99, 4);
    }

    private static void othersLeaveIt(Check check) {
        PacketGate gate = gate();
        Gates.out(gate, 1, 0, 5, 6, 150, 8);
        gate.header(250, 3, 99, 4);
        check.due("forged", gate.unseal(1, 2, false, 1, 0), PacketGate.FORGED);
        check.due("unknown", gate.unseal(5, 2, true, 1, 0), PacketGate.UNKNOWN);
        check.due("martian", gate.outward(1, 0), PacketGate.MARTIAN);
        check.due("martian", gate.inward(1, 0), PacketGate.MARTIAN);
        check.due("dropped", gate.report(1), PacketGate.DROPPED);
        check.due("a stream without SYN", Gates.out(gate, 0, 2, 5, 6, 150, 8), PacketGate.STATE);
        check.due("refused", gate.outward(3, 0), PacketGate.REFUSED);
        gate.hide(1, 22);
        gate.rekey();
        gate.tick(100);
        gate.header(1, 2, 3, 4);
        check.dueEmission("them", gate, 200, 100, 150, 8);
    }

    private static void fields(Check check) {
        PacketGate gate = gate();
        Gates.in(gate, 1, 0, 151, 9, 22);
        check.due("source address", gate.emission(0), 151);
        check.due("source port", gate.emission(1), 9);
        check.due("target address", gate.emission(2), 7);
        check.due("target port", gate.emission(3), 80);
    }

    private static void noPacketYet(Check check) {
        PacketGate gate = gate();
        for (int field = -1; field <= 4; field++) {
            check.due("emission(" + field + ") at first", gate.emission(field), PacketGate.REFUSED);
        }
        gate.header(1, 2, 3, 4);
        gate.outward(1, 0);
        gate.tick(1);
        check.due("emission(0) when none was let through", gate.emission(0), PacketGate.REFUSED);
        Gates.out(gate, 1, 0, 99, 1, 160, 2);
        check.due("emission(0) when one was sealed", gate.emission(0), 200);
    }

    private static void anotherField(Check check) {
        PacketGate gate = gate();
        Gates.out(gate, 1, 0, 5, 6, 150, 8);
        for (int field : Gates.notWithin(0, 3)) {
            check.due("emission(" + field + ")", gate.emission(field), PacketGate.REFUSED);
        }
    }
}
