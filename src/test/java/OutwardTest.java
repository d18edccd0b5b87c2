/** Promise 9: outward. */
public final class OutwardTest {
    private final Check check = new Check();

    public static void main(String[] args) {
        OutwardTest test = new OutwardTest();
        test.checkRefused();
        test.checkMartians();
        test.checkPolicy();
        test.checkSeal();
        test.checkOpening();
        test.checkNoRoom();
        test.checkPortsAreUsedAgain();
        test.checkFlowNeedsNoPolicy();
        test.check.end();
    }

    private void checkRefused() {
        PacketGate gate = Check.gate("Po**,*,*");
        gate.header(1, 1, 150, 1);
        int[][] wrong = {{-1, 0}, {3, 0}, {0, -1}, {0, 16}, {1, 16}, {Integer.MAX_VALUE, 0}, {0, Integer.MIN_VALUE}};
        for (int[] a : wrong) {
            check.due("outward " + a[0] + " " + a[1], gate.outward(a[0], a[1]), PacketGate.REFUSED);
        }
        check.due("refused ones are not counted", gate.count(5), 0);
        check.due("no flow", gate.count(1), 0);
        gate.header(200, 1, 200, 1);
        check.due("refused before martian", gate.outward(3, 0), PacketGate.REFUSED);
    }

    private void checkMartians() {
        for (int address = 0; address <= 255; address++) {
            PacketGate gate = Check.gate("Po**,*,*");
            int fromIt = address <= 127 ? PacketGate.PASSED : PacketGate.MARTIAN;
            check.due("outward from " + address, Check.out(gate, 1, 0, address, 1, 150, 1), fromIt);
            int toIt = address >= 128 && address != 200 ? PacketGate.PASSED : PacketGate.MARTIAN;
            check.due("outward to " + address, Check.out(gate, 2, 0, 1, 1, address, 1), toIt);
        }
        PacketGate gate = new PacketGate();
        check.due("martian before the policy", Check.out(gate, 1, 0, 1, 1, 200, 1), PacketGate.MARTIAN);
    }

    private void checkPolicy() {
        PacketGate none = new PacketGate();
        check.due("no rule", Check.out(none, 1, 0, 1, 1, 150, 1), PacketGate.DROPPED);
        check.due("counted", none.count(5), 1);
        policy("Pou5-7,150-151,80-81", 1, 4, 150, 80, PacketGate.DROPPED);
        policy("Pou5-7,150-151,80-81", 1, 5, 150, 80, PacketGate.PASSED);
        policy("Pou5-7,150-151,80-81", 1, 7, 151, 81, PacketGate.PASSED);
        policy("Pou5-7,150-151,80-81", 1, 8, 150, 80, PacketGate.DROPPED);
        policy("Pou5-7,150-151,80-81", 1, 5, 149, 80, PacketGate.DROPPED);
        policy("Pou5-7,150-151,80-81", 1, 5, 152, 80, PacketGate.DROPPED);
        policy("Pou5-7,150-151,80-81", 1, 5, 150, 79, PacketGate.DROPPED);
        policy("Pou5-7,150-151,80-81", 1, 5, 150, 82, PacketGate.DROPPED);
        policy("Pou5-7,150-151,80-81", 2, 5, 150, 80, PacketGate.DROPPED);
        policy("Poe*,*,*", 2, 5, 150, 80, PacketGate.PASSED);
        policy("Pot*,*,*", 1, 5, 150, 80, PacketGate.DROPPED);
        policy("Piu*,*,*", 1, 5, 150, 80, PacketGate.DROPPED);
        policy("Pbu*,*,*", 1, 5, 150, 80, PacketGate.PASSED);
        policy("Sou*,*,*", 1, 5, 150, 80, PacketGate.SEALED);
        policy("Dou*,*,*", 1, 5, 150, 80, PacketGate.DROPPED);
        PacketGate order = Check.gate("Piu*,*,*", "Soe*,*,*", "Dou5,*,*", "Po**,*,*");
        check.due("first that matches drops", Check.out(order, 1, 0, 5, 1, 150, 1), PacketGate.DROPPED);
        check.due("first that matches permits", Check.out(order, 1, 0, 6, 1, 150, 1), PacketGate.PASSED);
        check.due("first that matches seals", Check.out(order, 2, 0, 6, 1, 150, 1), PacketGate.SEALED);
    }

    private void policy(String line, int protocol, int address, int to, int toPort, int want) {
        PacketGate gate = Check.gate(line);
        check.due(line + " for " + protocol + " " + address + " " + to + " " + toPort,
                Check.out(gate, protocol, 0, address, 99, to, toPort), want);
    }

    private void checkSeal() {
        PacketGate gate = Check.gate("So**,*,*");
        for (int n = 1; n <= 40; n++) {
            check.due("seal " + n, Check.out(gate, n % 3, n % 16, n, n, 150, 7), PacketGate.SEALED);
            check.dueEmission("seal " + n, gate, 200, 1, 250, n);
            check.due("SEQUENCE", gate.count(8), n);
        }
        check.due("seal 41", gate.outward(1, 0), PacketGate.EXHAUSTED);
        check.due("SEQUENCE stays", gate.count(8), 40);
        check.dueEmission("exhausted", gate, 200, 1, 250, 40);
        check.due("no flow", gate.count(1), 0);
        check.due("no mapping", gate.count(3), 0);
        check.due("let through", gate.count(4), 40);
        check.due("not let through", gate.count(5), 1);
    }

    private void checkOpening() {
        for (int flags = 0; flags <= 15; flags++) {
            PacketGate gate = Check.gate("Po**,*,*");
            int want = flags == 1 ? PacketGate.PASSED : PacketGate.STATE;
            check.due("a stream opened with " + flags, Check.out(gate, 0, flags, 1, 1, 150, 1), want);
            check.due("flows", gate.count(1), flags == 1 ? 1 : 0);
            check.due("a datagram with " + flags, gate.outward(1, flags), PacketGate.PASSED);
            check.due("an echo with " + flags, gate.outward(2, flags), PacketGate.PASSED);
        }
        PacketGate gate = Check.gate("Po**,*,*");
        gate.tick(3);
        Check.out(gate, 0, 1, 5, 40, 150, 80);
        check.dueEmission("opening", gate, 200, 100, 150, 80);
        int[] want = {1, 0, 5, 40, 150, 80, 100, 3};
        for (int field = 0; field < want.length; field++) {
            check.due("field " + field, gate.flow(0, field), want[field]);
        }
        check.due("the endpoint's second flow", Check.out(gate, 0, 1, 5, 40, 151, 80), PacketGate.PASSED);
        check.due("has the same mapping", gate.flow(1, 6), 100);
        check.due("mappings", gate.count(3), 1);
        Check.out(gate, 0, 1, 5, 41, 150, 80);
        check.due("another endpoint's mapping", gate.flow(2, 6), 101);
        Check.out(gate, 1, 0, 5, 41, 150, 80);
        check.due("another protocol's mapping", gate.flow(3, 6), 100);
        check.due("mappings in all", gate.count(3), 3);
        check.due("a bad packet of the flow", Check.out(gate, 0, 3, 5, 40, 150, 80), PacketGate.STATE);
        check.dueEmission("a bad packet", gate, 200, 100, 150, 80);
    }

    private void checkNoRoom() {
        PacketGate gate = Check.gate("Sou99,*,*", "Po**,*,*");
        for (int port = 0; port < 12; port++) {
            check.due("flow " + port, Check.out(gate, 1, 0, 3, port, 130, 5), PacketGate.PASSED);
            check.due("its public port", gate.emission(1), 100 + port);
        }
        check.due("no public port left", Check.out(gate, 1, 0, 3, 12, 130, 5), PacketGate.NO_ROOM);
        gate.expose(1, 50, 3, 12);
        check.due("an exposed endpoint needs none", gate.outward(1, 0), PacketGate.PASSED);
        for (int to = 131; to <= 133; to++) {
            check.due("with a mapping to " + to, Check.out(gate, 1, 0, 3, 0, to, 5), PacketGate.PASSED);
        }
        check.due("flows", gate.count(1), 16);
        check.due("a 17th flow with a mapping", Check.out(gate, 1, 0, 3, 0, 134, 5), PacketGate.NO_ROOM);
        check.due("a 17th of another protocol", gate.outward(2, 0), PacketGate.NO_ROOM);
        check.due("a stream's wrong flags come first", gate.outward(0, 0), PacketGate.STATE);
        check.due("a 17th stream", gate.outward(0, 1), PacketGate.NO_ROOM);
        check.due("mappings", gate.count(3), 12);
        check.due("a packet of a flow", Check.out(gate, 1, 0, 3, 4, 130, 5), PacketGate.PASSED);
        check.due("sealing needs no room", Check.out(gate, 1, 0, 99, 1, 130, 5), PacketGate.SEALED);
    }

    private void checkPortsAreUsedAgain() {
        PacketGate gate = Check.gate("Po**,*,*");
        for (int port = 0; port < 4; port++) {
            Check.out(gate, 0, 1, 3, port, 130, 5);
        }
        check.due("a reset", Check.out(gate, 0, 8, 3, 1, 130, 5), PacketGate.PASSED);
        check.dueEmission("the reset", gate, 200, 101, 130, 5);
        check.due("flows", gate.count(1), 3);
        check.due("mappings", gate.count(3), 3);
        Check.out(gate, 0, 1, 3, 9, 130, 5);
        check.due("the least free port", gate.emission(1), 101);
        Check.out(gate, 0, 1, 3, 10, 130, 5);
        check.due("then the next", gate.emission(1), 104);
        Check.out(gate, 0, 1, 3, 0, 131, 5);
        Check.out(gate, 0, 8, 3, 0, 130, 5);
        Check.out(gate, 0, 1, 3, 11, 130, 5);
        check.due("a mapping stays while a flow has it", gate.emission(1), 105);
        Check.out(gate, 0, 8, 3, 0, 131, 5);
        Check.out(gate, 0, 1, 3, 12, 130, 5);
        check.due("and goes with the last", gate.emission(1), 100);
    }

    private void checkFlowNeedsNoPolicy() {
        PacketGate gate = Check.gate("Pi**,*,*");
        gate.expose(1, 7, 4, 4);
        Check.in(gate, 1, 0, 150, 9, 7);
        check.due("an answer though nothing may go out", Check.out(gate, 1, 0, 4, 4, 150, 9), PacketGate.PASSED);
        check.dueEmission("the answer", gate, 200, 7, 150, 9);
        check.due("from another port", Check.out(gate, 1, 0, 4, 5, 150, 9), PacketGate.DROPPED);
        check.due("to another port", Check.out(gate, 1, 0, 4, 4, 150, 8), PacketGate.DROPPED);
        check.due("of another protocol", Check.out(gate, 2, 0, 4, 4, 150, 9), PacketGate.DROPPED);
        check.due("from another address", Check.out(gate, 1, 0, 5, 4, 150, 9), PacketGate.DROPPED);
        check.due("to another address", Check.out(gate, 1, 0, 4, 4, 151, 9), PacketGate.DROPPED);
    }
}
