/** Promise 4: withdraw. */
public final class WithdrawTest {
    public static void main(String[] args) {
        Check check = new Check();
        PacketGate gate = Check.gate("Pot1,*,*", "Dou2,*,*", "Soe3,*,*", "Pi*4,*,*");
        int[] none = {0, -1, 5, Integer.MAX_VALUE, Integer.MIN_VALUE};
        for (int n : none) {
            check.due("withdraw(" + n + ")", gate.withdraw(n), PacketGate.REFUSED);
        }
        check.due("rules after refusals", gate.count(0), 4);
        check.due("withdraw(2)", gate.withdraw(2), 3);
        check.holds("rule 1 stays", Check.ruleText(gate, 1).equals("Pot1,*,*"));
        check.holds("rule 3 moved to 2", Check.ruleText(gate, 2).equals("Soe3,*,*"));
        check.holds("rule 4 moved to 3", Check.ruleText(gate, 3).equals("Pi*4,*,*"));
        check.due("rule 4 is gone", gate.ruleText(4, 0), PacketGate.REFUSED);
        check.due("withdraw(3), the last", gate.withdraw(3), 2);
        check.due("install behind them", Check.install(gate, "Dbt9,9,9"), 3);
        check.holds("the new rule", Check.ruleText(gate, 3).equals("Dbt9,9,9"));
        check.holds("rule 2 as before", Check.ruleText(gate, 2).equals("Soe3,*,*"));
        check.due("withdraw(1)", gate.withdraw(1), 2);
        check.due("withdraw(1) again", gate.withdraw(1), 1);
        check.due("withdraw(1) at last", gate.withdraw(1), 0);
        check.due("withdraw(1) of none", gate.withdraw(1), PacketGate.REFUSED);
        checkFlowsStay(check);
        checkPolicyChanges(check);
        check.end();
    }

    private static void checkFlowsStay(Check check) {
        PacketGate gate = Check.gate("Po**,*,*");
        check.due("a flow opens", Check.out(gate, 1, 0, 1, 1, 150, 1), PacketGate.PASSED);
        check.due("withdraw(1)", gate.withdraw(1), 0);
        check.due("the flow stays", gate.count(1), 1);
        check.due("its packets pass", gate.outward(1, 0), PacketGate.PASSED);
        check.due("its answers pass", Check.in(gate, 1, 0, 150, 1, 100), PacketGate.PASSED);
        check.due("another packet does not", Check.out(gate, 1, 0, 1, 2, 150, 1), PacketGate.DROPPED);
    }

    private static void checkPolicyChanges(Check check) {
        PacketGate gate = Check.gate("Dou5,*,*", "Pou*,*,*");
        check.due("the first rule that matches", Check.out(gate, 1, 0, 5, 1, 150, 1), PacketGate.DROPPED);
        gate.withdraw(1);
        check.due("then the next one", gate.outward(1, 0), PacketGate.PASSED);
    }
}
