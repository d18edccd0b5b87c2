/**
 * Compares answers with those that are due, sentence by sentence of a section of the document, and ends a
 * test with exit code 1 if one was wrong.
 */
final class Check {
    /** The test of one sentence. */
    interface Case {
        void run(Check check);
    }

    private static final int MOST_PRINTED = 20;

    private final String section;
    private String sentence = "";
    private int sentences = 0;
    private int answers = 0;
    private int wrong = 0;

    Check(String section) {
        this.section = section;
    }

    /** Runs the test of a sentence, which is named by the document's own words. */
    void sentence(String words, Case test) {
        sentence = words;
        sentences++;
        holds("these words stand there", Document.says(section, words));
        int before = answers;
        test.run(this);
        holds("something was compared", answers > before);
        sentence = "";
    }

    void due(String call, long got, long want) {
        answers++;
        if (got != want) {
            tellWrong(call + " answered " + got + ", due is " + want);
        }
    }

    void dueText(String what, String got, String want) {
        answers++;
        if (!got.equals(want)) {
            tellWrong(what + " is " + got + ", due is " + want);
        }
    }

    void holds(String what, boolean holds) {
        answers++;
        if (!holds) {
            tellWrong(what + ": it does not hold");
        }
    }

    private void tellWrong(String what) {
        wrong++;
        if (wrong <= MOST_PRINTED) {
            System.out.println(section + ": " + (sentence.isEmpty() ? "" : "\"" + sentence + "\": ") + what);
        }
    }

    void end() {
        System.out.println(section + ": " + sentences + " sentences, " + answers + " answers, " + wrong
                + " not as due");
        if (wrong != 0 || answers == 0) {
            System.exit(1);
        }
    }

    void dueEmission(String after, PacketGate gate, int... want) {
        for (int field = 0; field < 4; field++) {
            due("emission(" + field + ") after " + after, gate.emission(field), want[field]);
        }
    }

    void dueFlow(PacketGate gate, int i, int... want) {
        for (int field = 0; field < want.length; field++) {
            due("flow(" + i + ", " + field + ")", gate.flow(i, field), want[field]);
        }
    }

    void dueRule(PacketGate gate, int n, String want) {
        dueText("rule " + n, Gates.ruleText(gate, n), want);
    }
}
