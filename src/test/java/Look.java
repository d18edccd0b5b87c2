/** All that can be seen of a gate, as a text to compare: counts, rules, flows and the emission. */
final class Look {
    private Look() {
    }

    /** What is seen now, but for the counts that are left out. */
    static String at(PacketGate gate, int... leftOut) {
        StringBuilder text = new StringBuilder("counts");
        for (int what = 0; what <= 11; what++) {
            text.append(' ').append(isAmong(what, leftOut) ? "-" : "" + gate.count(what));
        }
        text.append(" emission");
        for (int field = 0; field <= 3; field++) {
            text.append(' ').append(gate.emission(field));
        }
        for (int n = 1; n <= gate.count(0); n++) {
            text.append(" rule ").append(Gates.ruleText(gate, n));
        }
        for (int i = 0; i < gate.count(1); i++) {
            text.append(" flow");
            for (int field = 0; field <= 7; field++) {
                text.append(' ').append(gate.flow(i, field));
            }
        }
        return text.toString();
    }

    private static boolean isAmong(int number, int[] numbers) {
        for (int one : numbers) {
            if (one == number) {
                return true;
            }
        }
        return false;
    }
}
