/** Promise 11: report. */
public final class Promise11ReportTest {
    public static void main(String[] args) {
        Check check = new Check("Promise 11: report");
        check.sentence("(not 0 .. 2: REFUSED)", Promise11ReportTest::outOfRange);
        check.sentence("There is a flow of the protocol with the source port as its public port, the source being PUBLIC,"
                + " and the target as its OUTSIDE endpoint: PASSED", Promise11ReportTest::passed);
        check.sentence("the EMISSION is from the flow's INSIDE endpoint to the target", Promise11ReportTest::emission);
        check.sentence("nothing of the flow changes.", Promise11ReportTest::nothingOfTheFlowChanges);
        check.sentence("Else DROPPED.", Promise11ReportTest::dropped);
        check.end();
    }

    /** A stream from 5 port 40 under 100 to 150 port 80, and a datagram flow of 7 port 80, exposed under 22. */
    private static PacketGate gate() {
        PacketGate gate = Gates.exposing();
        Gates.out(gate, 0, Gates.SYN, 5, 40, 150, 80);
        Gates.in(gate, 1, 0, 151, 9, 22);
        return gate;
    }

    private static void outOfRange(Check check) {
        PacketGate gate = gate();
        gate.header(200, 100, 150, 80);
        for (int protocol : Gates.notWithin(0, 2)) {
            check.due("report(" + protocol + ")", gate.report(protocol), PacketGate.REFUSED);
        }
        check.due("not let through", gate.count(5), 0);
        check.due("let through", gate.count(4), 2);
    }

    private static void passed(Check check) {
        PacketGate gate = gate();
        gate.header(200, 100, 150, 80);
        check.due("of a flow opened inside", gate.report(0), PacketGate.PASSED);
        gate.header(200, 22, 151, 9);
        check.due("of a flow opened outside", gate.report(1), PacketGate.PASSED);
        check.due("let through", gate.count(4), 4);
        while (gate.count(0) > 0) {
            gate.withdraw(1);
        }
        check.due("without a policy", gate.report(1), PacketGate.PASSED);
    }

    private static void emission(Check check) {
        PacketGate gate = gate();
        gate.header(200, 100, 150, 80);
        gate.report(0);
        check.dueEmission("report(0)", gate, 5, 40, 150, 80);
        gate.header(200, 22, 151, 9);
        gate.report(1);
        check.dueEmission("report(1)", gate, 7, 80, 151, 9);
    }

    private static void nothingOfTheFlowChanges(Check check) {
        PacketGate gate = gate();
        gate.tick(3);
        gate.header(200, 100, 150, 80);
        gate.report(0);
        check.dueFlow(gate, 0, 1, 0, 5, 40, 150, 80, 100, 0);
        gate.header(200, 22, 151, 9);
        gate.report(1);
        check.dueFlow(gate, 1, 6, 1, 7, 80, 151, 9, 22, 0);
        gate.tick(7);
        check.due("flows at their limits", gate.count(1), 0);
    }

    private static void dropped(Check check) {
        PacketGate gate = gate();
        int[][] none = {{199, 100, 150, 80}, {201, 100, 150, 80}, {5, 40, 150, 80}, {200, 99, 150, 80},
            {200, 101, 150, 80}, {200, 40, 150, 80}, {200, 100, 149, 80}, {200, 100, 151, 80}, {200, 100, 150, 79},
            {200, 100, 150, 81}, {150, 80, 200, 100}, {200, 22, 150, 80}, {200, 100, 151, 9}, {0, 0, 0, 0}};
        for (int[] h : none) {
            gate.header(h[0], h[1], h[2], h[3]);
            check.due("report of " + h[0] + " " + h[1] + " " + h[2] + " " + h[3], gate.report(0), PacketGate.DROPPED);
        }
        check.due("not let through", gate.count(5), none.length);
        gate.header(200, 100, 150, 80);
        check.due("of another protocol", gate.report(1), PacketGate.DROPPED);
        check.due("of another protocol", gate.report(2), PacketGate.DROPPED);
        check.dueEmission("dropped reports", gate, 151, 9, 7, 80);
        gate.tick(10);
        check.due("of a flow that has ended", gate.report(0), PacketGate.DROPPED);
        gate.header(200, 22, 151, 9);
        check.due("of an exposed mapping without a flow", gate.report(1), PacketGate.DROPPED);
    }
}
