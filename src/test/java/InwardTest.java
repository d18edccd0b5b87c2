/** Promise 10: inward. */
public final class InwardTest {
    private final Check check = new Check();

    public static void main(String[] args) {
        InwardTest test = new InwardTest();
        test.checkRefused();
        test.checkMartians();
        test.checkMapping();
        test.checkPolicy();
        test.checkOpening();
        test.checkNoRoom();
        test.checkAnswers();
        test.check.end();
    }

    private static PacketGate exposing(String... lines) {
        PacketGate gate = Check.gate(lines);
        gate.expose(0, 22, 7, 80);
        gate.expose(1, 22, 7, 80);
        return gate;
    }

    private void checkRefused() {
        PacketGate gate = exposing("Pi**,*,*");
        gate.header(150, 1, 200, 22);
        int[][] wrong = {{-1, 0}, {3, 0}, {0, -1}, {0, 16}, {1, 16}, {Integer.MIN_VALUE, 0}, {0, Integer.MAX_VALUE}};
        for (int[] a : wrong) {
            check.due("inward " + a[0] + " " + a[1], gate.inward(a[0], a[1]), PacketGate.REFUSED);
        }
        check.due("refused ones are not counted", gate.count(5), 0);
        check.due("no flow", gate.count(1), 0);
    }

    private void checkMartians() {
        for (int address = 0; address <= 255; address++) {
            PacketGate gate = exposing("Pi**,*,*");
            int fromIt = address >= 128 && address != 200 ? PacketGate.PASSED : PacketGate.MARTIAN;
            check.due("inward from " + address, Check.in(gate, 1, 0, address, 1, 22), fromIt);
            gate.header(150, 2, address, 22);
            int toIt = address == 200 ? PacketGate.PASSED : PacketGate.MARTIAN;
            check.due("inward to " + address, gate.inward(1, 0), toIt);
        }
    }

    private void checkMapping() {
        PacketGate gate = exposing("Pi**,*,*");
        check.due("another public port", Check.in(gate, 1, 0, 150, 1, 23), PacketGate.DROPPED);
        check.due("another protocol", Check.in(gate, 2, 0, 150, 1, 22), PacketGate.DROPPED);
        check.due("a stream without mapping and SYN", Check.in(gate, 0, 0, 150, 1, 23), PacketGate.DROPPED);
        check.due("no flow", gate.count(1), 0);
        check.due("counted", gate.count(5), 3);
    }

    private void checkPolicy() {
        policy("Diu*,*,*", PacketGate.DROPPED);
        policy("Siu*,*,*", PacketGate.DROPPED);
        policy("Piu*,*,*", PacketGate.PASSED);
        policy("Pbu*,*,*", PacketGate.PASSED);
        policy("Pou*,*,*", PacketGate.DROPPED);
        policy("Pit*,*,*", PacketGate.DROPPED);
        policy("Piu150,7,80", PacketGate.PASSED);
        policy("Piu151,7,80", PacketGate.DROPPED);
        policy("Piu150,200,80", PacketGate.DROPPED);
        policy("Piu150,7,22", PacketGate.DROPPED);
        policy("Piu150,200,22", PacketGate.DROPPED);
    }

    private void policy(String line, int want) {
        PacketGate gate = exposing(line);
        check.due(line, Check.in(gate, 1, 0, 150, 9, 22), want);
        check.due(line + ": flows", gate.count(1), want == PacketGate.PASSED ? 1 : 0);
    }

    private void checkOpening() {
        for (int flags = 0; flags <= 15; flags++) {
            PacketGate gate = exposing("Pi**,*,*");
            int want = flags == 1 ? PacketGate.PASSED : PacketGate.STATE;
            check.due("a stream opened with " + flags, Check.in(gate, 0, flags, 150, 9, 22), want);
            check.due("a datagram with " + flags, gate.inward(1, flags), PacketGate.PASSED);
        }
        PacketGate gate = exposing("Pi**,*,*");
        gate.tick(4);
        check.due("inward", Check.in(gate, 0, 1, 150, 9, 22), PacketGate.PASSED);
        check.dueEmission("inward", gate, 150, 9, 7, 80);
        int[] want = {1, 0, 7, 80, 150, 9, 22, 4};
        for (int field = 0; field < want.length; field++) {
            check.due("field " + field, gate.flow(0, field), want[field]);
        }
        check.due("exposed", gate.count(2), 2);
        check.due("no other mapping", gate.count(3), 0);
        check.due("a bad packet", gate.inward(0, 2), PacketGate.STATE);
        check.due("the flow is as before", gate.flow(0, 0), 1);
        check.due("a reset", gate.inward(0, 8), PacketGate.PASSED);
        check.due("flows", gate.count(1), 0);
        check.due("the exposed mapping stands", gate.count(2), 2);
    }

    private void checkNoRoom() {
        PacketGate gate = exposing("Pi**,*,*");
        for (int port = 0; port < 16; port++) {
            check.due("flow " + port, Check.in(gate, 1, 0, 150, port, 22), PacketGate.PASSED);
        }
        check.due("a 17th", Check.in(gate, 1, 0, 150, 16, 22), PacketGate.NO_ROOM);
        check.due("a 17th stream with wrong flags", gate.inward(0, 2), PacketGate.STATE);
        check.due("a 17th stream", gate.inward(0, 1), PacketGate.NO_ROOM);
        check.due("a packet of a flow", Check.in(gate, 1, 0, 150, 15, 22), PacketGate.PASSED);
        check.due("flows", gate.count(1), 16);
    }

    private void checkAnswers() {
        PacketGate gate = Check.gate("Pou*,*,*");
        Check.out(gate, 1, 0, 5, 5, 150, 80);
        check.due("an answer needs no policy", Check.in(gate, 1, 0, 150, 80, 100), PacketGate.PASSED);
        check.dueEmission("the answer", gate, 150, 80, 5, 5);
        check.due("from another port", Check.in(gate, 1, 0, 150, 81, 100), PacketGate.DROPPED);
        check.due("from another address", Check.in(gate, 1, 0, 151, 80, 100), PacketGate.DROPPED);
        Check.install(gate, "Piu*,5,5");
        check.due("another may use the mapping", Check.in(gate, 1, 0, 151, 80, 100), PacketGate.PASSED);
        check.due("its public port", gate.flow(1, 6), 100);
        check.due("one mapping", gate.count(3), 1);
        gate.tick(10);
        check.due("the one-sided flow has ended", gate.count(1), 1);
        check.due("the mapping has a flow still", gate.count(3), 1);
        gate.tick(20);
        check.due("all have ended", gate.count(3), 0);
        check.due("the mapping is gone", Check.in(gate, 1, 0, 151, 80, 100), PacketGate.DROPPED);
    }
}
