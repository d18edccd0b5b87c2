/** Promise 17: count. */
public final class Promise17CountTest {
    public static void main(String[] args) {
        Check check = new Check("Promise 17: count");
        check.sentence("Rules (0)", Promise17CountTest::rules);
        check.sentence("flows (1)", Promise17CountTest::flows);
        check.sentence("exposed mappings (2), other mappings (3)", Promise17CountTest::mappings);
        check.sentence("packets let through, PASSED or SEALED (4)", Promise17CountTest::letThrough);
        check.sentence("and not (5; all answers from DROPPED on below, of outward, inward, report and unseal)",
                Promise17CountTest::notLetThrough);
        check.sentence("of outward, inward, report and unseal)", Promise17CountTest::otherCallsAreNoPackets);
        check.sentence("TIME (6)", Promise17CountTest::time);
        check.sentence("the number of the CURRENT association (7), its SEQUENCE (8), its TOP (9)",
                Promise17CountTest::association);
        check.sentence("the line's length (10)", Promise17CountTest::lineLength);
        check.sentence("the latest bad place, -1 if there was none (11)", Promise17CountTest::badPlace);
        check.sentence("another what: REFUSED.", Promise17CountTest::anotherWhat);
        check.end();
    }

    private static void rules(Check check) {
        PacketGate gate = new PacketGate();
        for (int n = 0; n <= 16; n++) {
            check.due("count(0)", gate.count(0), n);
            Gates.install(gate, "Pb**,*,*");
        }
        check.due("count(0) when it was full", gate.count(0), 16);
        gate.withdraw(16);
        check.due("count(0) after a withdrawal", gate.count(0), 15);
    }

    private static void flows(Check check) {
        PacketGate gate = Gates.gate("Po**,*,*");
        for (int n = 0; n <= 16; n++) {
            check.due("count(1)", gate.count(1), n);
            Gates.out(gate, 1, 0, 5, 5, 150, n);
        }
        check.due("count(1) when it was full", gate.count(1), 16);
        gate.tick(10);
        check.due("count(1) when all have ended", gate.count(1), 0);
    }

    private static void mappings(Check check) {
        PacketGate gate = Gates.gate("Pb**,*,*");
        for (int n = 0; n <= 4; n++) {
            check.due("count(2)", gate.count(2), n);
            gate.expose(n % 3, n, 7, n);
        }
        check.due("count(2) when it was full", gate.count(2), 4);
        Gates.in(gate, 0, 1, 150, 1, 0);
        Gates.out(gate, 1, 0, 7, 1, 150, 1);
        check.due("count(3) with flows of exposed ones", gate.count(3), 0);
        for (int n = 0; n < 12; n++) {
            check.due("count(3)", gate.count(3), n);
            Gates.out(gate, n % 2, 1, 8, n / 2, 150, 1);
        }
        Gates.in(gate, 0, 1, 151, 1, 100);
        check.due("count(3) when another flow has one too", gate.count(3), 12);
        check.due("count(2)", gate.count(2), 4);
        gate.tick(10);
        check.due("count(3) without flows", gate.count(3), 0);
        check.due("count(2) without flows", gate.count(2), 4);
        gate.hide(0, 0);
        check.due("count(2) when one is hidden", gate.count(2), 3);
    }

    private static void letThrough(Check check) {
        PacketGate gate = Gates.gate("Sou99,*,*", "Siu*,99,*", "Pb**,*,*");
        check.due("count(4)", gate.count(4), 0);
        Gates.out(gate, 0, 1, 5, 6, 150, 8);
        check.due("count(4) after outward", gate.count(4), 1);
        Gates.in(gate, 0, 3, 150, 8, 100);
        check.due("count(4) after inward", gate.count(4), 2);
        Gates.out(gate, 1, 0, 99, 6, 151, 8);
        check.due("count(4) after a seal", gate.count(4), 3);
        gate.header(200, 100, 150, 8);
        gate.report(0);
        check.due("count(4) after report", gate.count(4), 4);
        gate.header(151, 8, 99, 6);
        Gates.unseal(gate, 1, 12);
        check.due("count(4) after unseal", gate.count(4), 5);
        Gates.out(gate, 0, Gates.RST, 5, 6, 150, 8);
        check.due("count(4) after a reset", gate.count(4), 6);
        check.due("count(5)", gate.count(5), 0);
    }

    private static void notLetThrough(Check check) {
        PacketGate gate = Gates.gate("So**,99,*", "Soe*,*,*", "Po**,*,*");
        int[] wants = {PacketGate.MARTIAN, PacketGate.MARTIAN, PacketGate.DROPPED, PacketGate.FORGED,
            PacketGate.UNKNOWN, PacketGate.MARTIAN, PacketGate.REPLAY};
        int[] got = {gate.outward(1, 0), gate.inward(1, 0), gate.report(1), gate.unseal(1, 9, false, 1, 0),
            gate.unseal(2, 9, true, 1, 0), gate.unseal(1, 9, true, 1, 0), gate.unseal(1, 9, true, 1, 0)};
        for (int n = 0; n < wants.length; n++) {
            check.due("packet " + n, got[n], wants[n]);
        }
        check.due("count(5)", gate.count(5), 7);
        check.due("a stream without SYN", Gates.out(gate, 0, 0, 5, 6, 150, 8), PacketGate.STATE);
        check.due("count(5) after STATE", gate.count(5), 8);
        for (int port = 0; port < 13; port++) {
            Gates.out(gate, 1, 0, 5, port, 150, 8);
        }
        check.due("count(5) after NO_ROOM", gate.count(5), 9);
        for (int n = 0; n < 41; n++) {
            gate.outward(2, 0);
        }
        check.due("count(5) after EXHAUSTED", gate.count(5), 10);
        check.due("count(4)", gate.count(4), 52);
    }

    private static void otherCallsAreNoPackets(Check check) {
        PacketGate gate = Gates.exposing();
        check.due("STATE of expose", gate.expose(0, 22, 1, 1), PacketGate.STATE);
        check.due("PASSED of expose", gate.expose(0, 1, 1, 1), PacketGate.PASSED);
        check.due("FULL of expose", gate.expose(0, 2, 2, 2), PacketGate.FULL);
        check.due("PASSED of hide", gate.hide(0, 22), PacketGate.PASSED);
        check.due("SYNTAX", gate.install(), PacketGate.SYNTAX);
        check.due("a refused outward", gate.outward(3, 0), PacketGate.REFUSED);
        check.due("a refused inward", gate.inward(0, 16), PacketGate.REFUSED);
        check.due("a refused report", gate.report(-1), PacketGate.REFUSED);
        check.due("a refused unseal", gate.unseal(1, 0, true, 1, 0), PacketGate.REFUSED);
        gate.header(1, 1, 1, 1);
        gate.tick(1);
        gate.rekey();
        check.due("count(4)", gate.count(4), 0);
        check.due("count(5)", gate.count(5), 0);
    }

    private static void time(Check check) {
        PacketGate gate = new PacketGate();
        check.due("count(6)", gate.count(6), 0);
        gate.tick(4);
        gate.tick(101);
        gate.tick(100);
        check.due("count(6)", gate.count(6), 104);
    }

    private static void association(Check check) {
        PacketGate gate = Gates.sealing();
        Gates.unseal(gate, 1, 12);
        Gates.unseal(gate, 1, 9);
        Gates.out(gate, 1, 0, 4, 5, 150, 9);
        gate.outward(1, 0);
        check.due("count(7)", gate.count(7), 1);
        check.due("count(8)", gate.count(8), 2);
        check.due("count(9)", gate.count(9), 12);
        gate.rekey();
        check.due("count(7) after rekey", gate.count(7), 2);
        check.due("count(8) after rekey", gate.count(8), 0);
        check.due("count(9) after rekey", gate.count(9), 0);
    }

    private static void lineLength(Check check) {
        PacketGate gate = new PacketGate();
        for (int n = 0; n <= 40; n++) {
            check.due("count(10)", gate.count(10), n);
            gate.type('*');
        }
        check.due("count(10) when it was full", gate.count(10), 40);
        gate.install();
        check.due("count(10) after install", gate.count(10), 0);
    }

    private static void badPlace(Check check) {
        PacketGate gate = new PacketGate();
        check.due("count(11)", gate.count(11), -1);
        Gates.install(gate, "Pb**,*,*");
        check.due("count(11) after a good line", gate.count(11), -1);
        gate.install();
        check.due("count(11) after the empty line", gate.count(11), 0);
        Gates.install(gate, "Pot*,300");
        check.due("count(11) after Pot*,300", gate.count(11), 7);
    }

    private static void anotherWhat(Check check) {
        PacketGate gate = Gates.exposing();
        for (int what : Gates.notWithin(0, 11)) {
            check.due("count(" + what + ")", gate.count(what), PacketGate.REFUSED);
        }
        check.due("count(11), the greatest, is no refusal but none yet", gate.count(11), -1);
        check.due("count(10)", gate.count(10), 0);
    }
}
