/** Promise 3: install. What a good line and its bad place are is in TermsOfLinesTest. */
public final class Promise03InstallTest {
    public static void main(String[] args) {
        Check check = new Check("Promise 3: install");
        check.sentence("Makes the line a rule, the last one", Promise03InstallTest::makesTheLastRule);
        check.sentence("the line is empty afterwards in every case.", Promise03InstallTest::lineIsEmptyAfterwards);
        check.sentence("16 rules are there: FULL", Promise03InstallTest::fullAt16);
        check.sentence("not a good LINE: SYNTAX", Promise03InstallTest::notAGoodLine);
        check.sentence("and the latest bad place becomes its BAD PLACE.", Promise03InstallTest::latestBadPlace);
        check.sentence("Answers the rule's number.", Promise03InstallTest::answersTheNumber);
        check.end();
    }

    private static void makesTheLastRule(Check check) {
        PacketGate gate = Gates.gate("Dot1,*,*", "Pou2,*,*");
        check.due("install", Gates.install(gate, "Sbe3,4-5,*"), 3);
        check.due("rules", gate.count(0), 3);
        check.dueRule(gate, 1, "Dot1,*,*");
        check.dueRule(gate, 2, "Pou2,*,*");
        check.dueRule(gate, 3, "Sbe3,4-5,*");
    }

    private static void lineIsEmptyAfterwards(Check check) {
        PacketGate gate = new PacketGate();
        lineIsEmpty(check, gate, "Pot*,*,*", 1);
        lineIsEmpty(check, gate, "", PacketGate.SYNTAX);
        lineIsEmpty(check, gate, "Pot*,", PacketGate.SYNTAX);
        lineIsEmpty(check, gate, "9".repeat(40), PacketGate.SYNTAX);
        for (int n = 2; n <= 16; n++) {
            lineIsEmpty(check, gate, "Pot*,*,*", n);
        }
        lineIsEmpty(check, gate, "Pot*,*,*", PacketGate.FULL);
        lineIsEmpty(check, gate, "Pot", PacketGate.FULL);
        lineIsEmpty(check, gate, "", PacketGate.FULL);
    }

    private static void lineIsEmpty(Check check, PacketGate gate, String line, int want) {
        check.due("install of " + line, Gates.install(gate, line), want);
        check.due("length afterwards", gate.count(10), 0);
    }

    private static void fullAt16(Check check) {
        PacketGate gate = new PacketGate();
        Gates.install(gate, "PP");
        for (int n = 1; n <= 16; n++) {
            check.due("install " + n, Gates.install(gate, "Pot" + n + ",*,*"), n);
        }
        check.due("a good line", Gates.install(gate, "Pot17,*,*"), PacketGate.FULL);
        check.due("a bad line", Gates.install(gate, "Pot9999"), PacketGate.FULL);
        check.due("the empty line", gate.install(), PacketGate.FULL);
        check.due("the bad place is the old one", gate.count(11), 1);
        check.due("rules", gate.count(0), 16);
        check.dueRule(gate, 16, "Pot16,*,*");
        gate.withdraw(3);
        check.due("after a withdrawal", Gates.install(gate, "Dot*,*,*"), 16);
        check.due("and again", Gates.install(gate, "Dot*,*,*"), PacketGate.FULL);
    }

    private static void notAGoodLine(Check check) {
        String[] lines = {"", "P", "Pot", "Pot*,*", "Pot*,*,", "Pot*,*,256", "Pot5-4,*,*", "Pot*,*,*,", "tot*,*,*"};
        for (String line : lines) {
            PacketGate gate = Gates.gate("Pot1,*,*");
            check.due("install of " + line, Gates.install(gate, line), PacketGate.SYNTAX);
            check.due("rules", gate.count(0), 1);
            check.dueRule(gate, 1, "Pot1,*,*");
            check.due("the next good line", Gates.install(gate, "Sbe1-2,3,4"), 2);
            check.dueRule(gate, 2, "Sbe1-2,3,4");
        }
    }

    private static void latestBadPlace(Check check) {
        PacketGate gate = new PacketGate();
        check.due("none yet", gate.count(11), -1);
        Gates.install(gate, "Pot*,*,*");
        check.due("none after a good line", gate.count(11), -1);
        Gates.install(gate, "Pot*,300,");
        check.due("that of Pot*,300,", gate.count(11), 7);
        Gates.install(gate, "Pot*,*,*");
        check.due("a good line leaves it", gate.count(11), 7);
        Gates.type(gate, "xP");
        check.due("typing leaves it", gate.count(11), 7);
        gate.install();
        check.due("that of P", gate.count(11), 1);
        gate.install();
        check.due("that of the empty line", gate.count(11), 0);
    }

    private static void answersTheNumber(Check check) {
        PacketGate gate = new PacketGate();
        check.due("the first", Gates.install(gate, "Pot*,*,*"), 1);
        check.due("the second", Gates.install(gate, "Pot*,*,*"), 2);
        gate.withdraw(1);
        check.due("the second again", Gates.install(gate, "Pot*,*,*"), 2);
    }
}
