/** Promise 5: ruleText. */
public final class RuleTextTest {
    private static final String[][] TEXTS = {
        {"Pot1-9,*,80", "Pot1-9,*,80"},
        {"Diu0-255,000-255,00-255", "Diu*,*,*"},
        {"Sbe007,010-011,099", "Sbe7,10-11,99"},
        {"Pb*5-5,05-005,0-0", "Pb*5,5,0"},
        {"Dot0-254,1-255,255", "Dot0-254,1-255,255"},
        {"Sou100-200,101,110-119", "Sou100-200,101,110-119"},
        {"Pie000,00,0", "Pie0,0,0"},
        {"Di*100-255,100-255,100-255", "Di*100-255,100-255,100-255"},
    };

    public static void main(String[] args) {
        Check check = new Check();
        PacketGate gate = new PacketGate();
        for (int n = 1; n <= TEXTS.length; n++) {
            Check.install(gate, TEXTS[n - 1][0]);
        }
        for (int n = 1; n <= TEXTS.length; n++) {
            String want = TEXTS[n - 1][1];
            check.holds("text of " + TEXTS[n - 1][0] + " is " + want, Check.ruleText(gate, n).equals(want));
            check.due("behind the end", gate.ruleText(n, want.length()), 0);
            check.due("far behind", gate.ruleText(n, Integer.MAX_VALUE), 0);
            check.due("i = -1", gate.ruleText(n, -1), PacketGate.REFUSED);
            check.due("i least int", gate.ruleText(n, Integer.MIN_VALUE), PacketGate.REFUSED);
        }
        int[] none = {0, -1, TEXTS.length + 1, 17, Integer.MAX_VALUE, Integer.MIN_VALUE};
        for (int n : none) {
            check.due("rule " + n, gate.ruleText(n, 0), PacketGate.REFUSED);
        }
        Check.type(gate, "Po");
        gate.ruleText(1, 0);
        check.due("the line stays as it is", gate.count(10), 2);
        check.end();
    }
}
