import java.util.Random;

/** Promise 3: install, with the form of a good line and its bad place. */
public final class InstallTest {
    private static final String ALLOWED = "PDSiobtue*-,0123456789";

    private final Check check = new Check();
    private final LineOracle oracle = new LineOracle();

    public static void main(String[] args) {
        InstallTest test = new InstallTest();
        test.checkChosenLines();
        test.checkFull();
        test.checkRefusedInstallChangesNothing();
        test.checkSecondNumbers();
        test.checkBrokenLines();
        test.check.end();
    }

    private void checkChosenLines() {
        good("Pot1-9,*,80");
        good("Db**,*,*");
        good("Siu000-255,007,12-012");
        good("Pot100-255,100-255,100-255");
        bad("", 0);
        bad("t", 0);
        bad("PP", 1);
        bad("P*", 1);
        bad("Po-", 2);
        bad("Pot", 3);
        bad("Pot-", 3);
        bad("Pot*-", 4);
        bad("Pot**", 4);
        bad("Pot1*", 4);
        bad("Pot5,,", 5);
        bad("Pot1234", 6);
        bad("Pot0000", 6);
        bad("Pot256", 5);
        bad("Pot300", 5);
        bad("Pot5--", 5);
        bad("Pot1-2-", 6);
        bad("Pot*,*,*,", 8);
        bad("Pot*,*,*5", 8);
        bad("Pot*,*,5,", 8);
        bad("Pot*,*,5-", 9);
        bad("Pot*,*", 6);
        bad("Pot*,*,", 7);
        bad("Pot100-3", 7);
        bad("Pot100-0", 7);
        bad("Pot200-1", 7);
        bad("Pot27-26,", 7);
        bad("Pot27-25,", 8);
        bad("Pot27-25", 8);
        bad("Pot*,*,100-10", 13);
        bad("Pot100-099", 7);
        bad("Pot10-0099", 7);
        bad("Pot9-0099", 8);
        bad("Pot251-250", 9);
        bad("Pot30-2,", 7);
    }

    private void good(String line) {
        check.due("the oracle on " + line, oracle.badPlace(line), LineOracle.GOOD);
        check.due("install of " + line, Check.install(new PacketGate(), line), 1);
    }

    private void bad(String line, int place) {
        check.due("the oracle on " + line, oracle.badPlace(line), place);
        PacketGate gate = new PacketGate();
        check.due("install of " + line, Check.install(gate, line), PacketGate.SYNTAX);
        check.due("bad place of " + line, gate.count(11), place);
        check.due("length after " + line, gate.count(10), 0);
        check.due("rules after " + line, gate.count(0), 0);
    }

    private void checkFull() {
        PacketGate gate = new PacketGate();
        Check.install(gate, "Px");
        for (int n = 1; n <= 16; n++) {
            check.due("install " + n, Check.install(gate, "Pot" + n + ",*,*"), n);
        }
        check.due("install of a good line at 16 rules", Check.install(gate, "Pot*,*,*"), PacketGate.FULL);
        check.due("length afterwards", gate.count(10), 0);
        check.due("install of a bad line at 16 rules", Check.install(gate, "Pot9999"), PacketGate.FULL);
        check.due("bad place is the old one", gate.count(11), 1);
        check.due("rules", gate.count(0), 16);
        gate.withdraw(3);
        check.due("install after a withdrawal", Check.install(gate, "Dot*,*,*"), 16);
    }

    private void checkRefusedInstallChangesNothing() {
        PacketGate gate = Check.gate("Pot1,*,*");
        Check.install(gate, "Di*7,");
        check.holds("rule 1 stands", Check.ruleText(gate, 1).equals("Pot1,*,*"));
        check.due("rules", gate.count(0), 1);
        Check.install(gate, "Sbe1-2,3,4");
        check.due("the bad place stays after a good line", gate.count(11), 5);
        check.holds("rule 2", Check.ruleText(gate, 2).equals("Sbe1-2,3,4"));
    }

    private void checkSecondNumbers() {
        PacketGate gate = new PacketGate();
        for (int low = 0; low <= 255; low++) {
            for (int high = 0; high <= 299; high += 1 + low % 3) {
                gate = compare(gate, "Pb*" + low + "-" + high + ",*,*");
                gate = compare(gate, "Pb**,*," + low + "-" + high);
            }
        }
    }

    private void checkBrokenLines() {
        Random random = new Random(1);
        PacketGate gate = new PacketGate();
        for (int n = 0; n < 40000; n++) {
            StringBuilder line = new StringBuilder(randomLine(random));
            for (int breaks = random.nextInt(3); breaks > 0 && line.length() > 0; breaks--) {
                breakLine(line, random);
            }
            gate = compare(gate, line.toString());
        }
    }

    private static void breakLine(StringBuilder line, Random random) {
        int place = random.nextInt(line.length());
        char c = ALLOWED.charAt(random.nextInt(ALLOWED.length()));
        switch (random.nextInt(4)) {
            case 0: line.setLength(place); break;
            case 1: line.deleteCharAt(place); break;
            case 2: line.setCharAt(place, c); break;
            default: line.insert(place, c); break;
        }
    }

    private static String randomLine(Random random) {
        StringBuilder line = new StringBuilder();
        line.append("PDS".charAt(random.nextInt(3))).append("iob".charAt(random.nextInt(3)));
        line.append("tue*".charAt(random.nextInt(4)));
        for (int i = 0; i < 3; i++) {
            line.append(i == 0 ? "" : ",");
            switch (random.nextInt(3)) {
                case 0: line.append('*'); break;
                case 1: line.append(randomNumber(random)); break;
                default: line.append(randomNumber(random)).append('-').append(randomNumber(random)); break;
            }
        }
        return line.toString();
    }

    private static String randomNumber(Random random) {
        int n = random.nextInt(270);
        return random.nextBoolean() ? String.valueOf(n) : String.format("%03d", n);
    }

    /** Installs the line and answers the gate, or a new one if it has all its rules. */
    private PacketGate compare(PacketGate gate, String line) {
        int rules = gate.count(0);
        int bad = gate.count(11);
        int place = oracle.badPlace(line);
        check.due("install of " + line, Check.install(gate, line), place < 0 ? rules + 1 : PacketGate.SYNTAX);
        check.due("bad place of " + line, gate.count(11), place < 0 ? bad : place);
        return gate.count(0) == 16 ? new PacketGate() : gate;
    }
}
