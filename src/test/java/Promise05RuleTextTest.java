/** Promise 5: ruleText. */
public final class Promise05RuleTextTest {
    public static void main(String[] args) {
        Check check = new Check("Promise 5: ruleText");
        check.sentence("Character i (from 0) of rule n's text", Promise05RuleTextTest::characterFrom0);
        check.sentence("0 for i behind the end", Promise05RuleTextTest::behindTheEnd);
        check.sentence("no such rule or i below 0: REFUSED.", Promise05RuleTextTest::noSuchRule);
        check.sentence("no such rule or i below 0: REFUSED.", Promise05RuleTextTest::below0);
        check.sentence("The text is a good LINE for the rule", Promise05RuleTextTest::aGoodLineForTheRule);
        check.sentence("with * for a range 0 .. 255", Promise05RuleTextTest::starForAll);
        check.sentence("one number for a range of one", Promise05RuleTextTest::oneNumberForOne);
        check.sentence("no zeros in front.", Promise05RuleTextTest::noZerosInFront);
        check.end();
    }

    private static void text(Check check, String line, String want) {
        check.dueRule(Gates.gate(line), 1, want);
    }

    private static void characterFrom0(Check check) {
        String line = "Pot1-9,*,80";
        PacketGate gate = Gates.gate("Db**,*,*", line);
        for (int i = 0; i < line.length(); i++) {
            check.due("ruleText(2, " + i + ")", gate.ruleText(2, i), line.charAt(i));
        }
        Gates.type(gate, "Po");
        check.due("while a line is typed", gate.ruleText(2, 2), 't');
        check.due("the line's length", gate.count(10), 2);
    }

    private static void behindTheEnd(Check check) {
        String[] lines = {"Pb**,*,*", "Di*100-255,100-255,100-255"};
        for (String line : lines) {
            PacketGate gate = Gates.gate("Di*100-255,100-255,100-255", line);
            int length = line.length();
            check.due("the last character", gate.ruleText(2, length - 1), line.charAt(length - 1));
            int[] behind = {length, length + 1, 26, 39, 40, 41, 256, 65536, Integer.MAX_VALUE};
            for (int i : behind) {
                check.due("ruleText(2, " + i + ")", gate.ruleText(2, i), 0);
            }
        }
    }

    private static void noSuchRule(Check check) {
        check.due("of none", new PacketGate().ruleText(1, 0), PacketGate.REFUSED);
        PacketGate gate = Gates.gate("Pb**,*,*", "Pb**,*,*");
        for (int n : Gates.notWithin(1, 2)) {
            check.due("ruleText(" + n + ", 0)", gate.ruleText(n, 0), PacketGate.REFUSED);
            check.due("ruleText(" + n + ", 99)", gate.ruleText(n, 99), PacketGate.REFUSED);
        }
        gate.withdraw(1);
        check.due("of what was rule 2", gate.ruleText(2, 0), PacketGate.REFUSED);
    }

    private static void below0(Check check) {
        PacketGate gate = Gates.gate("Pb**,*,*");
        int[] below = {-1, -2, -40, -256, -65536, Integer.MIN_VALUE};
        for (int i : below) {
            check.due("ruleText(1, " + i + ")", gate.ruleText(1, i), PacketGate.REFUSED);
        }
    }

    private static void aGoodLineForTheRule(Check check) {
        String[] letters = {"Pit", "Dou", "Sbe", "Pb*", "Do*", "Si*"};
        String[] ranges = {"*", "0", "255", "0-254", "1-255", "100-200", "10-99", "9-10"};
        for (String three : letters) {
            for (int n = 0; n < ranges.length; n++) {
                String line = three + ranges[n] + "," + ranges[(n + 1) % 8] + "," + ranges[(n + 3) % 8];
                text(check, line, line);
            }
        }
        text(check, "Di*100-255,100-255,100-255", "Di*100-255,100-255,100-255");
    }

    private static void starForAll(Check check) {
        text(check, "Diu0-255,000-255,00-255", "Diu*,*,*");
        text(check, "Diu*,*,*", "Diu*,*,*");
        text(check, "Diu0-254,1-255,1-254", "Diu0-254,1-255,1-254");
    }

    private static void oneNumberForOne(Check check) {
        text(check, "Pb*5-5,255-255,0-0", "Pb*5,255,0");
        text(check, "Pb*5-6,254-255,0-1", "Pb*5-6,254-255,0-1");
    }

    private static void noZerosInFront(Check check) {
        text(check, "Sbe007,010-011,099", "Sbe7,10-11,99");
        text(check, "Sbe000,00,0", "Sbe0,0,0");
        text(check, "Sbe000-001,05-005,00-010", "Sbe0-1,5,0-10");
        text(check, "Sbe100,110,101-200", "Sbe100,110,101-200");
        for (int n = 0; n <= 255; n++) {
            text(check, String.format("Sbe%03d,%02d,%d", n, n, n), "Sbe" + n + "," + n + "," + n);
        }
    }
}
