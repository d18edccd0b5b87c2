/** Promise 11: report. */
public final class ReportTest {
    public static void main(String[] args) {
        Check check = new Check();
        PacketGate gate = Check.gate("Pb**,*,*");
        gate.expose(1, 22, 7, 80);
        Check.out(gate, 0, 1, 5, 40, 150, 80);
        Check.in(gate, 1, 0, 151, 9, 22);
        gate.tick(3);
        gate.header(200, 100, 150, 80);
        int[] wrong = {-1, 3, Integer.MIN_VALUE, Integer.MAX_VALUE};
        for (int protocol : wrong) {
            check.due("report(" + protocol + ")", gate.report(protocol), PacketGate.REFUSED);
        }
        check.due("not let through", gate.count(5), 0);
        check.due("report(0)", gate.report(0), PacketGate.PASSED);
        check.dueEmission("report(0)", gate, 5, 40, 150, 80);
        check.due("let through", gate.count(4), 3);
        check.due("the state stays", gate.flow(0, 0), 1);
        check.due("LAST stays", gate.flow(0, 7), 0);
        gate.header(200, 22, 151, 9);
        check.due("report of an exposed mapping's flow", gate.report(1), PacketGate.PASSED);
        check.dueEmission("it", gate, 7, 80, 151, 9);
        check.due("a flow opened outside stays one-sided", gate.flow(1, 0), 6);
        int[][] none = {{201, 100, 150, 80}, {5, 40, 150, 80}, {200, 101, 150, 80}, {200, 100, 151, 80},
            {200, 100, 150, 81}, {150, 80, 200, 100}, {200, 22, 150, 80}};
        for (int[] h : none) {
            gate.header(h[0], h[1], h[2], h[3]);
            check.due("report of " + h[0] + " " + h[1] + " " + h[2] + " " + h[3], gate.report(0), PacketGate.DROPPED);
        }
        check.due("not let through", gate.count(5), none.length);
        gate.header(200, 100, 150, 80);
        check.due("of another protocol", gate.report(1), PacketGate.DROPPED);
        check.due("of another protocol", gate.report(2), PacketGate.DROPPED);
        check.dueEmission("dropped reports", gate, 7, 80, 151, 9);
        gate.tick(7);
        check.due("of a flow that has ended", gate.report(0), PacketGate.DROPPED);
        check.end();
    }
}
