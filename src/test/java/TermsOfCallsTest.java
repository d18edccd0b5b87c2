/** Terms: the order of the tests, and what calls leave as it is that are refused or let no packet through. */
public final class TermsOfCallsTest {
    /** One call to a gate. */
    private interface Call {
        int to(PacketGate gate);
    }

    private static final String LONG = "Pot*,*,*" + ",".repeat(32);

    public static void main(String[] args) {
        Check check = new Check("Terms");
        check.sentence("Tests are made in the order told;", TermsOfCallsTest::orderOfTypeAndInstall);
        check.sentence("Tests are made in the order told;", TermsOfCallsTest::orderOfExpose);
        check.sentence("Tests are made in the order told;", TermsOfCallsTest::orderOfOutward);
        check.sentence("Tests are made in the order told;", TermsOfCallsTest::orderOfInward);
        check.sentence("Tests are made in the order told;", TermsOfCallsTest::orderOfUnseal);
        check.sentence("a refused call (REFUSED, SYNTAX, FULL) changes nothing but what is said.",
                TermsOfCallsTest::refusedCallsChangeNothing);
        check.sentence("a refused call (REFUSED, SYNTAX, FULL) changes nothing but what is said.",
                TermsOfCallsTest::fullCallsChangeNothing);
        check.sentence("a refused call (REFUSED, SYNTAX, FULL) changes nothing but what is said.",
                TermsOfCallsTest::syntaxChangesLineAndBadPlaceAlone);
        check.sentence("Of a packet that is not let through nothing changes but the count and what is said.",
                TermsOfCallsTest::packetsNotLetThroughChangeNothing);
        check.sentence("Of a packet that is not let through nothing changes but the count and what is said.",
                TermsOfCallsTest::packetsWithoutRoomChangeNothing);
        check.end();
    }

    private static void orderOfTypeAndInstall(Check check) {
        PacketGate gate = new PacketGate();
        Gates.type(gate, LONG);
        check.due("a wrong character for a full line", gate.type('x'), PacketGate.REFUSED);
        check.due("a right one", gate.type('*'), PacketGate.FULL);
        gate.install();
        for (int n = 0; n < 16; n++) {
            Gates.install(gate, "Pb**,*,*");
        }
        check.due("a bad line at 16 rules", Gates.install(gate, "x"), PacketGate.FULL);
    }

    private static void orderOfExpose(Check check) {
        PacketGate gate = new PacketGate();
        for (int n = 0; n < 4; n++) {
            gate.expose(0, n, n, n);
        }
        check.due("out of range, taken, full", gate.expose(0, 0, 0, 256), PacketGate.REFUSED);
        check.due("a taken port, full", gate.expose(0, 3, 9, 9), PacketGate.STATE);
        check.due("a taken endpoint, full", gate.expose(0, 9, 3, 3), PacketGate.STATE);
        check.due("full", gate.expose(0, 9, 9, 9), PacketGate.FULL);
    }

    private static void orderOfOutward(Check check) {
        PacketGate gate = Gates.gate("Soe*,*,*", "Dou*,*,*", "Pot*,*,*");
        gate.header(128, 5, 150, 1);
        check.due("refused before martian", gate.outward(0, 16), PacketGate.REFUSED);
        check.due("martian before dropped", gate.outward(1, 0), PacketGate.MARTIAN);
        check.due("martian before sealed", gate.outward(2, 0), PacketGate.MARTIAN);
        check.due("martian before state", gate.outward(0, 0), PacketGate.MARTIAN);
        gate.header(5, 12, 150, 1);
        check.due("policy before state", gate.outward(1, 2), PacketGate.DROPPED);
        for (int port = 0; port < 12; port++) {
            Gates.out(gate, 0, Gates.SYN, 5, port, 150, 1);
        }
        gate.header(5, 12, 150, 1);
        check.due("state before no public port", gate.outward(0, 2), PacketGate.STATE);
        check.due("no public port", gate.outward(0, 1), PacketGate.NO_ROOM);
        for (int to = 151; to <= 154; to++) {
            Gates.out(gate, 0, Gates.SYN, 5, 0, to, 1);
        }
        gate.header(5, 0, 155, 1);
        check.due("state before 16 flows", gate.outward(0, 3), PacketGate.STATE);
        check.due("16 flows", gate.outward(0, 1), PacketGate.NO_ROOM);
        check.due("policy before 16 flows", gate.outward(1, 0), PacketGate.DROPPED);
        check.due("sealed with 16 flows", gate.outward(2, 0), PacketGate.SEALED);
        gate.withdraw(3);
        check.due("the flow before the policy", Gates.out(gate, 0, Gates.SYN, 5, 0, 150, 1), PacketGate.PASSED);
    }

    private static void orderOfInward(Check check) {
        PacketGate gate = Gates.gate("Diu160,*,*", "Pi**,*,*");
        gate.expose(0, 22, 7, 80);
        gate.expose(1, 22, 7, 80);
        gate.header(150, 9, 201, 23);
        check.due("refused before martian", gate.inward(3, 0), PacketGate.REFUSED);
        check.due("martian before no mapping", gate.inward(1, 0), PacketGate.MARTIAN);
        check.due("no mapping before state", Gates.in(gate, 0, 0, 150, 9, 23), PacketGate.DROPPED);
        check.due("policy before state", Gates.in(gate, 1, 0, 160, 9, 22), PacketGate.DROPPED);
        for (int port = 0; port < 16; port++) {
            Gates.in(gate, 1, 0, 150, port, 22);
        }
        check.due("no mapping before 16 flows", Gates.in(gate, 1, 0, 150, 16, 23), PacketGate.DROPPED);
        check.due("policy before 16 flows", Gates.in(gate, 1, 0, 160, 9, 22), PacketGate.DROPPED);
        check.due("state before 16 flows", Gates.in(gate, 0, 2, 150, 16, 22), PacketGate.STATE);
        check.due("16 flows", Gates.in(gate, 0, 1, 150, 16, 22), PacketGate.NO_ROOM);
        gate.withdraw(2);
        check.due("the flow before the policy", Gates.in(gate, 1, 0, 150, 15, 22), PacketGate.PASSED);
    }

    private static void orderOfUnseal(Check check) {
        PacketGate gate = Gates.gate("Pi**,*,*");
        gate.header(5, 1, 5, 1);
        check.due("refused before unknown", gate.unseal(2, 0, false, 1, 0), PacketGate.REFUSED);
        check.due("unknown before forged", gate.unseal(2, 7, false, 1, 0), PacketGate.UNKNOWN);
        check.due("forged before martian", gate.unseal(1, 7, false, 1, 0), PacketGate.FORGED);
        check.due("martian before the policy", gate.unseal(1, 7, true, 1, 0), PacketGate.MARTIAN);
        check.due("replay before forged", gate.unseal(1, 7, false, 1, 0), PacketGate.REPLAY);
        check.due("replay before martian", gate.unseal(1, 7, true, 1, 0), PacketGate.REPLAY);
        check.due("unknown before replay", gate.unseal(2, 7, true, 1, 0), PacketGate.UNKNOWN);
        check.due("refused before replay", gate.unseal(1, 7, true, 3, 0), PacketGate.REFUSED);
        gate.header(150, 1, 5, 1);
        check.due("the policy", gate.unseal(1, 8, true, 1, 0), PacketGate.DROPPED);
    }

    /** A gate with something of everything, the line half typed, and the header of a packet that would pass. */
    private static PacketGate busy() {
        PacketGate gate = Gates.gate("Sb*99,*,*", "Sb**,99,*", "Dou98,*,*", "Pb**,*,*");
        for (int n = 0; n < 4; n++) {
            gate.expose(n % 2, 20 + n, 7, 80 + n);
        }
        gate.header(150, 9, 99, 1);
        Gates.unseal(gate, 1, 40);
        Gates.out(gate, 1, 0, 99, 1, 150, 1);
        gate.tick(5);
        gate.rekey();
        gate.header(150, 9, 99, 1);
        Gates.unseal(gate, 2, 50);
        Gates.unseal(gate, 2, 48);
        int[] flags = {Gates.SYN, Gates.SYN | Gates.ACK, Gates.ACK, Gates.FIN};
        for (int step = 0; step < flags.length; step++) {
            if (step % 2 == 0) {
                Gates.out(gate, 0, flags[step], 5, 40, 150, 80);
            } else {
                Gates.in(gate, 0, flags[step], 150, 80, 100);
            }
        }
        Gates.in(gate, 1, 0, 160, 1, 21);
        Gates.install(gate, "Pot2");
        Gates.type(gate, "Pot1-");
        gate.tick(1);
        gate.header(6, 6, 160, 6);
        return gate;
    }

    /** What calls answer that show the header, the line's text, the closed side and the accepted numbers. */
    private static String later(PacketGate gate) {
        StringBuilder text = new StringBuilder();
        text.append(gate.outward(1, 0)).append(' ').append(Look.at(gate, 5));
        text.append(' ').append(Gates.install(gate, "9,*,*")).append(' ').append(Gates.ruleText(gate, 5));
        gate.header(150, 9, 99, 1);
        for (int sequence = 47; sequence <= 51; sequence++) {
            text.append(' ').append(Gates.unseal(gate, 2, sequence));
        }
        text.append(' ').append(Gates.unseal(gate, 1, 40)).append(' ').append(Gates.unseal(gate, 1, 41));
        text.append(' ').append(Gates.in(gate, 0, Gates.FIN, 150, 80, 100)).append(gate.flow(0, 0));
        text.append(' ').append(Gates.out(gate, 0, Gates.FIN, 5, 40, 150, 80)).append(gate.flow(0, 0));
        text.append(' ').append(gate.expose(0, 9, 9, 9)).append(gate.tick(5)).append(gate.count(1));
        return text.toString();
    }

    private static void refused(Check check, String name, Call call) {
        PacketGate gate = busy();
        String before = Look.at(gate);
        check.due(name, call.to(gate), PacketGate.REFUSED);
        check.dueText("what is seen after " + name, Look.at(gate), before);
        PacketGate other = busy();
        call.to(other);
        check.dueText("what follows " + name, later(other), later(busy()));
    }

    private static void refusedCallsChangeNothing(Check check) {
        check.holds("the packet would pass", later(busy()).startsWith("0 "));
        refused(check, "type(120)", g -> g.type('x'));
        refused(check, "type('9' + 65536)", g -> g.type('9' + 65536));
        refused(check, "withdraw(0)", g -> g.withdraw(0));
        refused(check, "withdraw(5)", g -> g.withdraw(5));
        refused(check, "ruleText(5, 0)", g -> g.ruleText(5, 0));
        refused(check, "ruleText(1, -1)", g -> g.ruleText(1, -1));
        refused(check, "expose(3, 9, 9, 9)", g -> g.expose(3, 9, 9, 9));
        refused(check, "expose(0, 100, 9, 9)", g -> g.expose(0, 100, 9, 9));
        refused(check, "expose(0, 9, 128, 9)", g -> g.expose(0, 9, 128, 9));
        refused(check, "expose(0, 9, 9, 256)", g -> g.expose(0, 9, 9, 256));
        refused(check, "hide(0, 9)", g -> g.hide(0, 9));
        refused(check, "hide(0, 100)", g -> g.hide(0, 100));
        refused(check, "hide(3, 20)", g -> g.hide(3, 20));
        refused(check, "header(256, 1, 1, 1)", g -> g.header(256, 1, 1, 1));
        refused(check, "header(1, 256, 1, 1)", g -> g.header(1, 256, 1, 1));
        refused(check, "header(1, 1, 256, 1)", g -> g.header(1, 1, 256, 1));
        refused(check, "header(1, 1, 1, -1)", g -> g.header(1, 1, 1, -1));
        refused(check, "outward(3, 0)", g -> g.outward(3, 0));
        refused(check, "outward(1, 16)", g -> g.outward(1, 16));
        refused(check, "inward(-1, 0)", g -> g.inward(-1, 0));
        refused(check, "inward(1, -1)", g -> g.inward(1, -1));
        refused(check, "report(3)", g -> g.report(3));
        refused(check, "unseal(2, 0, true, 1, 0)", g -> g.unseal(2, 0, true, 1, 0));
        refused(check, "unseal(2, 10000, true, 1, 0)", g -> g.unseal(2, 10000, true, 1, 0));
        refused(check, "unseal(2, 51, true, 3, 0)", g -> g.unseal(2, 51, true, 3, 0));
        refused(check, "unseal(2, 51, true, 1, 16)", g -> g.unseal(2, 51, true, 1, 16));
        refused(check, "tick(0)", g -> g.tick(0));
        refused(check, "tick(101)", g -> g.tick(101));
        refused(check, "emission(4)", g -> g.emission(4));
        refused(check, "flow(2, 0)", g -> g.flow(2, 0));
        refused(check, "flow(0, 8)", g -> g.flow(0, 8));
        refused(check, "count(12)", g -> g.count(12));
    }

    private static void fullCallsChangeNothing(Check check) {
        PacketGate line = Gates.gate("Pb**,*,*");
        Gates.type(line, LONG);
        String before = Look.at(line);
        check.due("type into a full line", line.type('5'), PacketGate.FULL);
        check.dueText("what is seen", Look.at(line), before);
        line.install();
        check.due("the line's bad place", line.count(11), 8);

        PacketGate rules = sixteenRules();
        check.due("install of a 17th", Gates.install(rules, "Pb**,*,*"), PacketGate.FULL);
        check.due("the line is empty, as is said", rules.count(10), 0);
        check.dueText("what else is seen", Look.at(rules), Look.at(sixteenRules()));
        rules.withdraw(16);
        check.due("nothing is left of it", rules.install(), PacketGate.SYNTAX);

        PacketGate exposed = busy();
        before = Look.at(exposed);
        check.due("expose of a fifth", exposed.expose(0, 9, 9, 9), PacketGate.FULL);
        check.dueText("what is seen", Look.at(exposed), before);
        check.due("it has no mapping", Gates.in(exposed, 0, 1, 150, 1, 9), PacketGate.DROPPED);
    }

    private static PacketGate sixteenRules() {
        PacketGate gate = new PacketGate();
        for (int n = 1; n <= 16; n++) {
            Gates.install(gate, "Db*" + n + ",*,*");
        }
        return gate;
    }

    private static void syntaxChangesLineAndBadPlaceAlone(Check check) {
        PacketGate gate = busy();
        String before = Look.at(gate, 10, 11);
        check.due("install of Pot1-", gate.install(), PacketGate.SYNTAX);
        check.due("the line is empty, as is said", gate.count(10), 0);
        check.due("the bad place, as is said", gate.count(11), 5);
        check.dueText("what else is seen", Look.at(gate, 10, 11), before);
        check.due("the next rule's number", Gates.install(gate, "Dot*,*,*"), 5);
    }

    /** A packet of which no more is said than that it is not let through. */
    private static void stopped(Check check, int want, int[] header, Call call) {
        PacketGate gate = busy();
        gate.header(header[0], header[1], header[2], header[3]);
        String before = Look.at(gate, 5);
        int count = gate.count(5);
        check.due("a packet from " + header[0] + " to " + header[2], call.to(gate), want);
        check.due("not let through, after " + want, gate.count(5), count + 1);
        check.dueText("what else is seen after " + want, Look.at(gate, 5), before);
        PacketGate one = busy();
        one.header(header[0], header[1], header[2], header[3]);
        call.to(one);
        one.header(6, 6, 160, 6);
        check.dueText("what follows " + want, later(one), later(busy()));
    }

    private static void packetsNotLetThroughChangeNothing(Check check) {
        stopped(check, PacketGate.MARTIAN, new int[] {128, 1, 160, 1}, g -> g.outward(1, 0));
        stopped(check, PacketGate.MARTIAN, new int[] {5, 1, 200, 1}, g -> g.outward(1, 0));
        stopped(check, PacketGate.DROPPED, new int[] {98, 1, 160, 1}, g -> g.outward(1, 0));
        stopped(check, PacketGate.STATE, new int[] {5, 1, 160, 1}, g -> g.outward(0, 2));
        stopped(check, PacketGate.STATE, new int[] {5, 40, 150, 80}, g -> g.outward(0, 5));
        stopped(check, PacketGate.MARTIAN, new int[] {200, 1, 200, 21}, g -> g.inward(1, 0));
        stopped(check, PacketGate.MARTIAN, new int[] {150, 1, 201, 21}, g -> g.inward(1, 0));
        stopped(check, PacketGate.DROPPED, new int[] {150, 1, 200, 99}, g -> g.inward(1, 0));
        stopped(check, PacketGate.STATE, new int[] {150, 1, 200, 20}, g -> g.inward(0, 0));
        stopped(check, PacketGate.STATE, new int[] {150, 80, 200, 100}, g -> g.inward(0, 5));
        stopped(check, PacketGate.DROPPED, new int[] {200, 100, 150, 81}, g -> g.report(0));
        stopped(check, PacketGate.UNKNOWN, new int[] {150, 9, 99, 1}, g -> g.unseal(3, 60, true, 1, 0));
        stopped(check, PacketGate.REPLAY, new int[] {150, 9, 99, 1}, g -> g.unseal(2, 50, true, 1, 0));
        stopped(check, PacketGate.REPLAY, new int[] {150, 9, 99, 1}, g -> g.unseal(2, 18, true, 1, 0));
        stopped(check, PacketGate.FORGED, new int[] {150, 9, 99, 1}, g -> g.unseal(2, 49, false, 1, 0));
        stopped(check, PacketGate.FORGED, new int[] {150, 9, 99, 1}, g -> g.unseal(2, 60, false, 1, 0));
        stopped(check, PacketGate.FORGED, new int[] {150, 9, 99, 1}, g -> g.unseal(1, 60, false, 1, 0));
    }

    private static void withoutRoom(Check check, PacketGate gate, int want, Call call) {
        String before = Look.at(gate, 5);
        int count = gate.count(5);
        check.due("a packet without room", call.to(gate), want);
        check.due("not let through", gate.count(5), count + 1);
        check.dueText("what else is seen", Look.at(gate, 5), before);
    }

    private static void packetsWithoutRoomChangeNothing(Check check) {
        PacketGate flows = Gates.exposing();
        Gates.openFlows(flows, 16);
        flows.header(9, 9, 160, 1);
        withoutRoom(check, flows, PacketGate.NO_ROOM, g -> g.outward(1, 0));
        PacketGate inward = Gates.exposing();
        Gates.openFlows(inward, 16);
        inward.header(160, 1, 200, 22);
        withoutRoom(check, inward, PacketGate.NO_ROOM, g -> g.inward(1, 0));
        PacketGate ports = Gates.exposing();
        for (int port = 0; port < 12; port++) {
            Gates.out(ports, 1, 0, 5, port, 150, 1);
        }
        ports.header(9, 9, 160, 1);
        withoutRoom(check, ports, PacketGate.NO_ROOM, g -> g.outward(1, 0));
        PacketGate seals = Gates.sealing();
        seals.header(9, 9, 160, 1);
        for (int n = 0; n < 40; n++) {
            seals.outward(1, 0);
        }
        withoutRoom(check, seals, PacketGate.EXHAUSTED, g -> g.outward(1, 0));
    }
}
