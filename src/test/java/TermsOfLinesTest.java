import java.util.Random;

/** Terms: the line, good lines, ranges, numbers and the bad place. */
public final class TermsOfLinesTest {
    private static final String ALLOWED = "PDSiobtue*-,0123456789";

    private static final LineOracle ORACLE = new LineOracle();

    public static void main(String[] args) {
        Check check = new Check("Terms");
        check.sentence("THE LINE is a text of at most 40 characters", TermsOfLinesTest::atMost40Characters);
        check.sentence("empty at first", TermsOfLinesTest::emptyAtFirst);
        check.sentence("A good LINE: one of P D S (permit, drop, seal); one of i o b; one of t u e * (0, 1, 2, any)",
                TermsOfLinesTest::letters);
        check.sentence("a range, a comma, a range, a comma, a range.", TermsOfLinesTest::rangesAndCommas);
        check.sentence("A range: * (all), or a number, or a number, - and a number that isn't less.",
                TermsOfLinesTest::ranges);
        check.sentence("A number is one to three digits worth 0 .. 255.", TermsOfLinesTest::numbers);
        check.sentence("the number (from 0) of the first character with which no good line, of any length, begins"
                + " up to and with it", TermsOfLinesTest::firstCharacterOfNoGoodLine);
        check.sentence("or the line's length if it is only too short.", TermsOfLinesTest::onlyTooShort);
        check.sentence("(So a digit that makes a number's fourth digit", TermsOfLinesTest::fourthDigit);
        check.sentence("or more than 255, is bad;", TermsOfLinesTest::moreThan255);
        check.sentence("of a range's second number the first digit with which it can't come to be the first number"
                + " or more with at most three digits and at most 255;", TermsOfLinesTest::secondNumberCantComeToFirst);
        check.sentence("and what follows a second number that is less.)", TermsOfLinesTest::whatFollowsALesserNumber);
        check.sentence("The BAD PLACE of a line that isn't good", TermsOfLinesTest::secondNumbersByTheOracle);
        check.sentence("The BAD PLACE of a line that isn't good", TermsOfLinesTest::brokenLinesByTheOracle);
        check.end();
    }

    private static void good(Check check, String line) {
        check.due("the oracle on " + line, ORACLE.badPlace(line), LineOracle.GOOD);
        PacketGate gate = new PacketGate();
        check.due("install of " + line, Gates.install(gate, line), 1);
        check.due("bad place after " + line, gate.count(11), -1);
    }

    private static void bad(Check check, String line, int place) {
        check.due("the oracle on " + line, ORACLE.badPlace(line), place);
        PacketGate gate = new PacketGate();
        check.due("install of " + line, Gates.install(gate, line), PacketGate.SYNTAX);
        check.due("bad place of " + line, gate.count(11), place);
        check.due("rules after " + line, gate.count(0), 0);
    }

    private static void atMost40Characters(Check check) {
        PacketGate gate = new PacketGate();
        for (int n = 1; n <= 40; n++) {
            check.due("character " + n, gate.type('9'), n);
        }
        check.due("character 41", gate.type('9'), PacketGate.FULL);
        check.due("length", gate.count(10), 40);
        bad(check, "Pot*,*,*" + ",".repeat(32), 8);
        bad(check, "Pot*,*,000" + "0".repeat(30), 10);
    }

    private static void emptyAtFirst(Check check) {
        PacketGate gate = new PacketGate();
        check.due("length", gate.count(10), 0);
        check.due("install of the empty line", gate.install(), PacketGate.SYNTAX);
        check.due("its bad place", gate.count(11), 0);
    }

    private static void letters(Check check) {
        for (int i = 0; i < ALLOWED.length(); i++) {
            char c = ALLOWED.charAt(i);
            boolean[] fits = {"PDS".indexOf(c) >= 0, "iob".indexOf(c) >= 0, "tue*".indexOf(c) >= 0};
            for (int place = 0; place < 3; place++) {
                String line = "Pot".substring(0, place) + c + "Pot".substring(place + 1) + "*,*,*";
                if (fits[place]) {
                    good(check, line);
                } else {
                    bad(check, line, place);
                }
            }
        }
        bad(check, "P", 1);
        bad(check, "Po", 2);
        bad(check, "Pot", 3);
    }

    private static void rangesAndCommas(Check check) {
        good(check, "Pot1,2,3");
        good(check, "Pot*,*,*");
        good(check, "Pot1-2,3-4,5-6");
        good(check, "Pot100-255,100-255,100-255");
        bad(check, "Pot,*,*", 3);
        bad(check, "Pot*,,*", 5);
        bad(check, "Pot*,*,,", 7);
        bad(check, "Pot*,*", 6);
        bad(check, "Pot*,*,", 7);
        bad(check, "Pot*-*,*", 4);
        bad(check, "Pot*,*,*,", 8);
        bad(check, "Pot*,*,*,*", 8);
        bad(check, "Pot*,*,5,", 8);
        bad(check, "Pot*,*,*P", 8);
        bad(check, "Pot*,*,5P", 8);
    }

    private static void ranges(Check check) {
        good(check, "Pot5-5,0-0,255-255");
        good(check, "Pot0-255,0-1,254-255");
        good(check, "Pot12-012,007-7,00-0");
        bad(check, "Pot5-4,*,*", 6);
        bad(check, "Pot1-0,*,*", 6);
        bad(check, "Pot255-254,*,*", 9);
        bad(check, "Pot**", 4);
        bad(check, "Pot*5", 4);
        bad(check, "Pot5*", 4);
        bad(check, "Pot-5", 3);
        bad(check, "Pot5--", 5);
        bad(check, "Pot5-*", 5);
        bad(check, "Pot5-,", 5);
        bad(check, "Pot1-2-", 6);
    }

    private static void numbers(Check check) {
        for (int n = 0; n <= 255; n++) {
            good(check, "Pot" + n + ",*,*");
            good(check, String.format("Pot*,%02d,*", n));
            good(check, String.format("Pot*,*,%03d", n));
        }
        for (int n = 256; n <= 999; n++) {
            bad(check, "Pot" + n + ",*,*", 5);
        }
        bad(check, "Pot1000,*,*", 6);
        bad(check, "Pot0000,*,*", 6);
    }

    private static void firstCharacterOfNoGoodLine(Check check) {
        bad(check, "t", 0);
        bad(check, "PP", 1);
        bad(check, "Po-", 2);
        bad(check, "Pot-", 3);
        bad(check, "Pot1P", 4);
        bad(check, "Pot1,P", 5);
        bad(check, "Pot1,2P", 6);
        bad(check, "Pot1,2,P", 7);
        bad(check, "Pot1,2,3P", 8);
        bad(check, "tttttttt", 0);
        bad(check, "Pot100-255,100-255,100-255,", 26);
    }

    private static void onlyTooShort(Check check) {
        String[] lines = {"Pot100-255,100-255,100-255", "Db**,*,*", "Siu1,20,255"};
        for (String line : lines) {
            for (int length = 0; length < line.length(); length++) {
                String beginning = line.substring(0, length);
                if (ORACLE.badPlace(beginning) != LineOracle.GOOD) {
                    bad(check, beginning, length);
                }
            }
            good(check, line);
        }
        bad(check, "", 0);
        bad(check, "Pot*,*,5-", 9);
        bad(check, "Pot*,*,100-10", 13);
    }

    private static void fourthDigit(Check check) {
        bad(check, "Pot0000", 6);
        bad(check, "Pot0255", 6);
        bad(check, "Pot1234", 6);
        bad(check, "Pot2550", 6);
        bad(check, "Pot*,0011", 8);
        bad(check, "Pot*,*,0011", 10);
        bad(check, "Pot9-0099", 8);
        bad(check, "Pot0-0000", 8);
        bad(check, "Pot0-2550", 8);
    }

    private static void moreThan255(Check check) {
        good(check, "Pot255,*,*");
        bad(check, "Pot256,*,*", 5);
        bad(check, "Pot260,*,*", 5);
        bad(check, "Pot300,*,*", 5);
        bad(check, "Pot999,*,*", 5);
        good(check, "Pot0-255,*,*");
        bad(check, "Pot0-256,*,*", 7);
        bad(check, "Pot0-300,*,*", 7);
    }

    private static void secondNumberCantComeToFirst(Check check) {
        bad(check, "Pot100-0", 7);
        bad(check, "Pot100-099", 7);
        bad(check, "Pot100-3", 7);
        bad(check, "Pot100-9", 7);
        bad(check, "Pot200-1", 7);
        bad(check, "Pot200-20,", 9);
        bad(check, "Pot251-250", 9);
        bad(check, "Pot251-24", 8);
        bad(check, "Pot250-26", 8);
        bad(check, "Pot100-26", 8);
        good(check, "Pot9-26,*,*");
        bad(check, "Pot99-26,", 7);
        bad(check, "Pot27-26,", 7);
        bad(check, "Pot26-3,", 7);
        bad(check, "Pot10-0099", 7);
        bad(check, "Pot10-009", 7);
        bad(check, "Pot10-01,", 8);
        good(check, "Pot10-010,*,*");
    }

    private static void whatFollowsALesserNumber(Check check) {
        bad(check, "Pot27-25,", 8);
        bad(check, "Pot30-2,", 7);
        bad(check, "Pot30-2-", 7);
        bad(check, "Pot30-2P", 7);
        bad(check, "Pot*,*,30-2", 11);
        bad(check, "Pot*,*,30-2,", 11);
        bad(check, "Pot*,30-2*", 9);
        bad(check, "Pot27-25", 8);
    }

    private static void secondNumbersByTheOracle(Check check) {
        for (int low = 0; low <= 255; low++) {
            for (int high = 0; high <= 299; high += 1 + low % 3) {
                PacketGate gate = new PacketGate();
                compare(check, gate, "Pb*" + low + "-" + high + ",*,*");
                compare(check, gate, "Pb**,*," + low + "-" + high);
            }
        }
    }

    private static void brokenLinesByTheOracle(Check check) {
        Random random = new Random(1);
        PacketGate gate = new PacketGate();
        for (int n = 0; n < 40000; n++) {
            StringBuilder line = new StringBuilder(randomLine(random));
            for (int breaks = random.nextInt(3); breaks > 0 && line.length() > 0; breaks--) {
                breakLine(line, random);
            }
            if (n % 12 == 0) {
                gate = new PacketGate();
            }
            compare(check, gate, line.toString());
        }
    }

    private static void breakLine(StringBuilder line, Random random) {
        int place = random.nextInt(line.length());
        char c = ALLOWED.charAt(random.nextInt(ALLOWED.length()));
        switch (random.nextInt(4)) {
            case 0: line.setLength(place); break;
            case 1: line.deleteCharAt(place); break;
            case 2: line.setCharAt(place, c); break;
            default: line.insert(place, c); break;
        }
    }

    private static String randomLine(Random random) {
        StringBuilder line = new StringBuilder();
        line.append("PDS".charAt(random.nextInt(3))).append("iob".charAt(random.nextInt(3)));
        line.append("tue*".charAt(random.nextInt(4)));
        for (int i = 0; i < 3; i++) {
            line.append(i == 0 ? "" : ",");
            switch (random.nextInt(3)) {
                case 0: line.append('*'); break;
                case 1: line.append(randomNumber(random)); break;
                default: line.append(randomNumber(random)).append('-').append(randomNumber(random)); break;
            }
        }
        return line.toString();
    }

    private static String randomNumber(Random random) {
        int n = random.nextInt(270);
        return random.nextBoolean() ? String.valueOf(n) : String.format("%03d", n);
    }

    private static void compare(Check check, PacketGate gate, String line) {
        int rules = gate.count(0);
        int bad = gate.count(11);
        int place = ORACLE.badPlace(line);
        boolean good = place == LineOracle.GOOD;
        check.due("install of " + line, Gates.install(gate, line), good ? rules + 1 : PacketGate.SYNTAX);
        check.due("bad place of " + line, gate.count(11), good ? bad : place);
    }
}
