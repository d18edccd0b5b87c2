/** Terms: rules, what they match, and the policy. */
public final class TermsOfRulesTest {
    public static void main(String[] args) {
        Check check = new Check("Terms");
        check.sentence("RULES 1, 2, .. (at most 16) in order.", TermsOfRulesTest::atMost16InOrder);
        check.sentence("A rule has an ACTION (permit, drop, seal)", TermsOfRulesTest::action);
        check.sentence("a DIRECTION (inward, outward, both)", TermsOfRulesTest::direction);
        check.sentence("a protocol or any protocol", TermsOfRulesTest::protocol);
        check.sentence("three ranges, for source address, target address, target port.",
                TermsOfRulesTest::rangesAreForTheirNumbers);
        check.sentence("A packet of a direction MATCHES if its direction, protocol and those three numbers fit.",
                TermsOfRulesTest::matchesAtTheEndsOfRanges);
        check.sentence("The POLICY for a packet is the ACTION of the first rule that it MATCHES",
                TermsOfRulesTest::firstRuleThatMatches);
        check.sentence("that it MATCHES, or drop.", TermsOfRulesTest::dropIfNoneMatches);
        check.end();
    }

    private static void atMost16InOrder(Check check) {
        PacketGate gate = new PacketGate();
        for (int n = 1; n <= 16; n++) {
            check.due("rule " + n, Gates.install(gate, "Dbt" + n + ",*,*"), n);
        }
        check.due("a 17th", Gates.install(gate, "Dbt17,*,*"), PacketGate.FULL);
        check.due("rules", gate.count(0), 16);
        for (int n = 1; n <= 16; n++) {
            check.dueRule(gate, n, "Dbt" + n + ",*,*");
        }
        check.due("rule 17", gate.ruleText(17, 0), PacketGate.REFUSED);
    }

    private static void outward(Check check, String line, int protocol, int address, int to, int toPort, int want) {
        PacketGate gate = Gates.gate(line);
        check.due(line + " for " + protocol + " " + address + " " + to + " " + toPort,
                Gates.out(gate, protocol, Gates.SYN, address, 99, to, toPort), want);
    }

    private static void action(Check check) {
        outward(check, "Pou*,*,*", 1, 5, 150, 80, PacketGate.PASSED);
        outward(check, "Dou*,*,*", 1, 5, 150, 80, PacketGate.DROPPED);
        outward(check, "Sou*,*,*", 1, 5, 150, 80, PacketGate.SEALED);
    }

    private static void direction(Check check) {
        String letters = "iob";
        for (int i = 0; i < 3; i++) {
            char way = letters.charAt(i);
            outward(check, "P" + way + "u*,*,*", 1, 5, 150, 80, way == 'i' ? PacketGate.DROPPED : PacketGate.PASSED);
            PacketGate gate = Gates.gate("P" + way + "u*,*,*");
            gate.expose(1, 22, 7, 80);
            check.due("inward by " + way, Gates.in(gate, 1, 0, 150, 9, 22),
                    way == 'o' ? PacketGate.DROPPED : PacketGate.PASSED);
            PacketGate sealing = Gates.gate("S" + way + "u*,*,*");
            sealing.header(150, 9, 7, 80);
            check.due("unseal by " + way, Gates.unseal(sealing, 1, 1),
                    way == 'o' ? PacketGate.DROPPED : PacketGate.PASSED);
        }
    }

    private static void protocol(Check check) {
        String letters = "tue*";
        for (int i = 0; i < 4; i++) {
            for (int protocol = 0; protocol <= 2; protocol++) {
                boolean fits = i == 3 || i == protocol;
                outward(check, "Po" + letters.charAt(i) + "*,*,*", protocol, 5, 150, 80,
                        fits ? PacketGate.PASSED : PacketGate.DROPPED);
            }
        }
    }

    private static void rangesAreForTheirNumbers(Check check) {
        outward(check, "Pou5,150,80", 1, 5, 150, 80, PacketGate.PASSED);
        outward(check, "Pou5,*,*", 1, 5, 150, 80, PacketGate.PASSED);
        outward(check, "Pou*,150,*", 1, 5, 150, 80, PacketGate.PASSED);
        outward(check, "Pou*,*,80", 1, 5, 150, 80, PacketGate.PASSED);
        outward(check, "Pou99,*,*", 1, 5, 150, 80, PacketGate.DROPPED);
        outward(check, "Pou*,*,99", 1, 5, 150, 80, PacketGate.DROPPED);
        outward(check, "Pou150,*,*", 1, 5, 150, 80, PacketGate.DROPPED);
        outward(check, "Pou*,5,*", 1, 5, 150, 80, PacketGate.DROPPED);
    }

    private static void matchesAtTheEndsOfRanges(Check check) {
        String line = "Pou5-7,150-152,80-82";
        for (int off = -1; off <= 3; off++) {
            int want = off >= 0 && off <= 2 ? PacketGate.PASSED : PacketGate.DROPPED;
            outward(check, line, 1, 5 + off, 151, 81, want);
            outward(check, line, 1, 6, 150 + off, 81, want);
            outward(check, line, 1, 6, 151, 80 + off, want);
        }
        outward(check, line, 2, 6, 151, 81, PacketGate.DROPPED);
        outward(check, "Pou0,255,0", 1, 0, 255, 0, PacketGate.PASSED);
        outward(check, "Pou0,255,0", 1, 1, 255, 0, PacketGate.DROPPED);
        outward(check, "Pou0,255,0", 1, 0, 254, 0, PacketGate.DROPPED);
        outward(check, "Pou0,255,0", 1, 0, 255, 1, PacketGate.DROPPED);
        outward(check, "Pou*,*,255", 1, 127, 128, 255, PacketGate.PASSED);
        outward(check, "Pou*,*,255", 1, 127, 128, 254, PacketGate.DROPPED);
        outward(check, "Pou*,*,*", 1, 0, 255, 255, PacketGate.PASSED);
        outward(check, "Pou*,*,*", 1, 127, 128, 0, PacketGate.PASSED);
    }

    private static void firstRuleThatMatches(Check check) {
        PacketGate gate = Gates.gate("Piu*,*,*", "Soe*,*,*", "Dou5,*,*", "Po**,*,*", "So**,*,*");
        check.due("the third drops", Gates.out(gate, 1, 0, 5, 1, 150, 1), PacketGate.DROPPED);
        check.due("the fourth permits", Gates.out(gate, 1, 0, 6, 1, 150, 1), PacketGate.PASSED);
        check.due("the second seals", Gates.out(gate, 2, 0, 6, 1, 150, 1), PacketGate.SEALED);
        PacketGate full = new PacketGate();
        for (int n = 1; n <= 15; n++) {
            Gates.install(full, "Dou" + n + ",*,*");
        }
        Gates.install(full, "Pou*,*,*");
        check.due("the 15th of 16 drops", Gates.out(full, 1, 0, 15, 1, 150, 1), PacketGate.DROPPED);
        check.due("the 16th permits", Gates.out(full, 1, 0, 16, 1, 150, 1), PacketGate.PASSED);
    }

    private static void dropIfNoneMatches(Check check) {
        PacketGate none = new PacketGate();
        none.expose(1, 22, 7, 80);
        check.due("outward without rules", Gates.out(none, 1, 0, 5, 1, 150, 1), PacketGate.DROPPED);
        check.due("inward without rules", Gates.in(none, 1, 0, 150, 1, 22), PacketGate.DROPPED);
        none.header(150, 1, 7, 80);
        check.due("unseal without rules", Gates.unseal(none, 1, 1), PacketGate.DROPPED);
        PacketGate gate = Gates.gate("Pou6,*,*", "Soe*,*,*", "Pi**,*,*");
        check.due("no rule that fits", Gates.out(gate, 1, 0, 5, 1, 150, 1), PacketGate.DROPPED);
    }
}
