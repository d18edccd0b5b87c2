/** Terms: addresses, ports, protocols, flags, the header and the time. */
public final class TermsOfPacketsTest {
    public static void main(String[] args) {
        Check check = new Check("Terms");
        check.sentence("ADDRESSES and PORTS are 0 .. 255.", TermsOfPacketsTest::addressesAndPorts);
        check.sentence("INSIDE addresses are 0 .. 127", TermsOfPacketsTest::insideAddresses);
        check.sentence("200 is the PUBLIC address", TermsOfPacketsTest::publicAddress);
        check.sentence("OUTSIDE ones are 128 .. 255 but 200.", TermsOfPacketsTest::outsideAddresses);
        check.sentence("PROTOCOLS: 0 stream, 1 datagram, 2 echo.", TermsOfPacketsTest::protocols);
        check.sentence("FLAGS of a packet 0 .. 15: SYN 1, ACK 2, FIN 4, RST 8", TermsOfPacketsTest::flags);
        check.sentence("(they matter for streams only)", TermsOfPacketsTest::flagsMatterForStreamsOnly);
        check.sentence("The HEADER is a source address and port, a target address and port, all 0 at first.",
                TermsOfPacketsTest::headerIsZeroAtFirst);
        check.sentence("TIME is 0 at first.", TermsOfPacketsTest::timeIsZeroAtFirst);
        check.end();
    }

    private static void addressesAndPorts(Check check) {
        PacketGate gate = Gates.gate("Po**,*,*");
        for (int n : Gates.notWithin(0, 255)) {
            check.due("header with address " + n, gate.header(n, 1, 150, 1), PacketGate.REFUSED);
            check.due("header with port " + n, gate.header(1, n, 150, 1), PacketGate.REFUSED);
        }
        check.due("port 0 to port 255", Gates.out(gate, 1, 0, 0, 0, 255, 255), PacketGate.PASSED);
        check.dueFlow(gate, 0, 6, 1, 0, 0, 255, 255, 100, 0);
        check.due("port 255 to port 0", Gates.out(gate, 1, 0, 127, 255, 128, 0), PacketGate.PASSED);
        check.dueFlow(gate, 1, 6, 1, 127, 255, 128, 0, 101, 0);
    }

    private static void insideAddresses(Check check) {
        for (int address = 0; address <= 255; address++) {
            boolean inside = address <= 127;
            PacketGate gate = Gates.gate("Po**,*,*");
            check.due("outward from " + address, Gates.out(gate, 1, 0, address, 1, 150, 1),
                    inside ? PacketGate.PASSED : PacketGate.MARTIAN);
            check.due("expose of " + address, gate.expose(2, 1, address, 1),
                    inside ? PacketGate.PASSED : PacketGate.REFUSED);
            PacketGate sealing = Gates.gate("Si**,*,*");
            sealing.header(150, 1, address, 1);
            check.due("unseal to " + address, Gates.unseal(sealing, 1, 1),
                    inside ? PacketGate.PASSED : PacketGate.MARTIAN);
        }
    }

    private static void publicAddress(Check check) {
        for (int address = 0; address <= 255; address++) {
            PacketGate gate = Gates.exposing();
            gate.header(150, 9, address, 22);
            check.due("inward to " + address, gate.inward(1, 0),
                    address == 200 ? PacketGate.PASSED : PacketGate.MARTIAN);
        }
    }

    private static void outsideAddresses(Check check) {
        for (int address = 0; address <= 255; address++) {
            int want = address >= 128 && address != 200 ? PacketGate.PASSED : PacketGate.MARTIAN;
            PacketGate gate = Gates.exposing();
            check.due("outward to " + address, Gates.out(gate, 1, 0, 1, 1, address, 1), want);
            check.due("inward from " + address, Gates.in(gate, 1, 0, address, 2, 22), want);
            PacketGate sealing = Gates.sealing();
            sealing.header(address, 1, 4, 4);
            check.due("unseal from " + address, Gates.unseal(sealing, 1, 1), want);
        }
    }

    private static void protocols(Check check) {
        for (int protocol = 0; protocol <= 2; protocol++) {
            PacketGate gate = Gates.gate("Po" + "tue".charAt(protocol) + "*,*,*");
            for (int other = 0; other <= 2; other++) {
                check.due("protocol " + other + " where " + protocol + " is permitted",
                        Gates.out(gate, other, Gates.SYN, 5, 5, 150, 1),
                        other == protocol ? PacketGate.PASSED : PacketGate.DROPPED);
            }
            check.due("state at first", gate.flow(0, 0), protocol == 0 ? 1 : 6);
            check.due("protocol of the flow", gate.flow(0, 1), protocol);
        }
    }

    private static void flags(Check check) {
        PacketGate gate = Gates.exposing();
        for (int flags : Gates.notWithin(0, 15)) {
            check.due("flags " + flags, Gates.packet(gate, true, 0, flags), PacketGate.REFUSED);
        }
        check.due("SYN is 1", Gates.packet(gate, true, 0, 1), PacketGate.PASSED);
        Gates.packet(gate, false, 0, 3);
        check.due("SYN and ACK are 3", gate.flow(0, 0), 2);
        Gates.packet(gate, true, 0, 2);
        check.due("ACK is 2", gate.flow(0, 0), 3);
        Gates.packet(gate, true, 0, 4);
        check.due("FIN is 4", gate.flow(0, 0), 4);
        Gates.packet(gate, true, 0, 8);
        check.due("RST is 8", gate.count(1), 0);
    }

    private static void flagsMatterForStreamsOnly(Check check) {
        for (int flags = 0; flags <= 15; flags++) {
            for (int protocol = 1; protocol <= 2; protocol++) {
                PacketGate gate = Gates.exposing();
                check.due("opening with " + flags, Gates.packet(gate, true, protocol, flags), PacketGate.PASSED);
                check.due("its state", gate.flow(0, 0), 6);
                check.due("an answer with " + flags, Gates.packet(gate, false, protocol, flags), PacketGate.PASSED);
                check.due("its state", gate.flow(0, 0), 7);
                check.due("one more with " + flags, Gates.packet(gate, true, protocol, flags), PacketGate.PASSED);
                check.due("its state", gate.flow(0, 0), 7);
            }
        }
    }

    private static void headerIsZeroAtFirst(Check check) {
        PacketGate gate = Gates.exposing();
        check.due("outward from 0 to 0", gate.outward(1, 0), PacketGate.MARTIAN);
        check.due("inward from 0 to 0", gate.inward(1, 0), PacketGate.MARTIAN);
        check.due("report of 0 to 0", gate.report(1), PacketGate.DROPPED);
        check.due("unseal from 0 to 0", Gates.unseal(gate, 1, 1), PacketGate.MARTIAN);
    }

    private static void timeIsZeroAtFirst(Check check) {
        PacketGate gate = Gates.exposing();
        check.due("TIME", gate.count(6), 0);
        Gates.packet(gate, true, 1, 0);
        check.due("LAST of a flow", gate.flow(0, 7), 0);
        check.due("tick(1)", gate.tick(1), 1);
    }
}
