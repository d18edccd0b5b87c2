/** Promise 4: withdraw. */
public final class Promise04WithdrawTest {
    public static void main(String[] args) {
        Check check = new Check("Promise 4: withdraw");
        check.sentence("Takes rule n away, later ones move down by one", Promise04WithdrawTest::laterOnesMoveDown);
        check.sentence("Takes rule n away, later ones move down by one", Promise04WithdrawTest::policyFollows);
        check.sentence("flows stay.", Promise04WithdrawTest::flowsStay);
        check.sentence("No such rule: REFUSED.", Promise04WithdrawTest::noSuchRule);
        check.sentence("Answers how many rules are left.", Promise04WithdrawTest::answersHowManyAreLeft);
        check.end();
    }

    private static void laterOnesMoveDown(Check check) {
        for (int taken = 1; taken <= 16; taken++) {
            PacketGate gate = new PacketGate();
            for (int n = 1; n <= 16; n++) {
                Gates.install(gate, "Pot" + n + ",*,*");
            }
            check.due("withdraw(" + taken + ")", gate.withdraw(taken), 15);
            check.due("rule 16", gate.ruleText(16, 0), PacketGate.REFUSED);
            check.due("install behind them", Gates.install(gate, "Dbt9,9,9"), 16);
            for (int n = 1; n <= 15; n++) {
                check.dueRule(gate, n, "Pot" + (n < taken ? n : n + 1) + ",*,*");
            }
            check.dueRule(gate, 16, "Dbt9,9,9");
        }
    }

    private static void policyFollows(Check check) {
        PacketGate gate = Gates.gate("Dou5,*,*", "Pou*,*,*", "Sou*,*,*");
        check.due("by the first", Gates.out(gate, 1, 0, 5, 1, 150, 1), PacketGate.DROPPED);
        gate.withdraw(1);
        check.due("by the second", gate.outward(1, 0), PacketGate.PASSED);
        gate.withdraw(1);
        check.due("by the third", Gates.out(gate, 1, 0, 5, 2, 150, 1), PacketGate.SEALED);
        gate.withdraw(1);
        check.due("by none", gate.outward(1, 0), PacketGate.DROPPED);
    }

    private static void flowsStay(Check check) {
        PacketGate gate = Gates.gate("Po**,*,*");
        Gates.out(gate, 1, 0, 1, 1, 150, 1);
        check.due("withdraw(1)", gate.withdraw(1), 0);
        check.due("flows", gate.count(1), 1);
        check.due("its mapping", gate.count(3), 1);
        check.due("its packets pass", gate.outward(1, 0), PacketGate.PASSED);
        check.due("its answers pass", Gates.in(gate, 1, 0, 150, 1, 100), PacketGate.PASSED);
        check.due("another packet does not", Gates.out(gate, 1, 0, 1, 2, 150, 1), PacketGate.DROPPED);
    }

    private static void noSuchRule(Check check) {
        PacketGate none = new PacketGate();
        check.due("withdraw(1) of none", none.withdraw(1), PacketGate.REFUSED);
        check.due("withdraw(0) of none", none.withdraw(0), PacketGate.REFUSED);
        PacketGate gate = Gates.gate("Pot1,*,*", "Dou2,*,*");
        for (int n : Gates.notWithin(1, 2)) {
            check.due("withdraw(" + n + ")", gate.withdraw(n), PacketGate.REFUSED);
        }
        check.due("rules", gate.count(0), 2);
        check.due("withdraw(2)", gate.withdraw(2), 1);
        check.due("withdraw(2) again", gate.withdraw(2), PacketGate.REFUSED);
        PacketGate full = new PacketGate();
        for (int n = 1; n <= 16; n++) {
            Gates.install(full, "Pb**,*,*");
        }
        check.due("withdraw(17)", full.withdraw(17), PacketGate.REFUSED);
        check.due("withdraw(16)", full.withdraw(16), 15);
    }

    private static void answersHowManyAreLeft(Check check) {
        PacketGate gate = new PacketGate();
        for (int n = 1; n <= 16; n++) {
            Gates.install(gate, "Pb**,*,*");
        }
        for (int left = 15; left >= 0; left--) {
            check.due("withdraw", gate.withdraw(1 + left / 2), left);
            check.due("rules", gate.count(0), left);
        }
    }
}
