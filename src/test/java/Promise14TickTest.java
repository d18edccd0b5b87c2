/** Promise 14: tick. The limit of each state is in TermsOfFlowsTest. */
public final class Promise14TickTest {
    public static void main(String[] args) {
        Check check = new Check("Promise 14: tick");
        check.sentence("TIME grows by n", Promise14TickTest::timeGrows);
        check.sentence("(1 .. 100, else REFUSED)", Promise14TickTest::outOfRange);
        check.sentence("flows whose LIMIT is come to end.", Promise14TickTest::flowsEnd);
        check.sentence("flows whose LIMIT is come to end.", Promise14TickTest::orderOfTheOthersStays);
        check.sentence("flows whose LIMIT is come to end.", Promise14TickTest::allOf16End);
        check.sentence("Answers TIME.", Promise14TickTest::answersTime);
        check.end();
    }

    private static void timeGrows(Check check) {
        PacketGate gate = new PacketGate();
        for (int n = 1; n <= 100; n++) {
            gate.tick(n);
            check.due("TIME", gate.count(6), n * (n + 1) / 2);
        }
    }

    private static void outOfRange(Check check) {
        PacketGate gate = new PacketGate();
        for (int n : Gates.notWithin(1, 100)) {
            check.due("tick(" + n + ")", gate.tick(n), PacketGate.REFUSED);
            check.due("TIME", gate.count(6), 0);
        }
        check.due("tick(1)", gate.tick(1), 1);
        check.due("tick(100)", gate.tick(100), 101);
        PacketGate flows = Gates.flow(6);
        flows.tick(9);
        flows.tick(0);
        flows.tick(101);
        check.due("flows after refused ticks", flows.count(1), 1);
    }

    private static void flowsEnd(Check check) {
        PacketGate gate = Gates.gate("Po**,*,*");
        Gates.out(gate, 1, 0, 5, 1, 150, 9);
        Gates.in(gate, 1, 0, 150, 9, 100);
        gate.tick(1);
        Gates.out(gate, 0, 1, 5, 2, 150, 9);
        gate.tick(1);
        Gates.out(gate, 2, 0, 5, 3, 150, 9);
        check.due("tick(8)", gate.tick(8), 10);
        check.due("flows", gate.count(1), 3);
        gate.tick(1);
        check.due("the stream has ended", gate.count(1), 2);
        gate.tick(1);
        check.due("the echo has ended", gate.count(1), 1);
        gate.tick(17);
        check.due("the datagram flow is there", gate.flow(0, 1), 1);
        gate.tick(1);
        check.due("all have ended", gate.count(1), 0);
        check.due("mappings", gate.count(3), 0);
        check.due("what ended is not counted", gate.count(5), 0);
    }

    private static void orderOfTheOthersStays(Check check) {
        PacketGate gate = Gates.gate("Po**,*,*");
        for (int port = 0; port < 8; port++) {
            Gates.out(gate, 1, 0, 5, port, 150, 9);
        }
        gate.tick(5);
        for (int port = 1; port < 8; port += 2) {
            Gates.out(gate, 1, 0, 5, port, 150, 9);
        }
        gate.tick(5);
        check.due("flows", gate.count(1), 4);
        for (int i = 0; i < 4; i++) {
            check.due("port of flow " + i, gate.flow(i, 3), 2 * i + 1);
        }
        check.due("behind them", gate.flow(4, 3), PacketGate.REFUSED);
    }

    private static void allOf16End(Check check) {
        PacketGate gate = Gates.gate("Po**,*,*");
        Gates.openFlows(gate, 16);
        check.due("flows", gate.count(1), 16);
        gate.tick(10);
        check.due("flows", gate.count(1), 0);
        check.due("mappings", gate.count(3), 0);
        check.due("there is room again", gate.outward(1, 0), PacketGate.PASSED);
    }

    private static void answersTime(Check check) {
        PacketGate gate = new PacketGate();
        for (int n = 1; n <= 400; n++) {
            check.due("tick(100)", gate.tick(100), 100 * n);
        }
    }
}
