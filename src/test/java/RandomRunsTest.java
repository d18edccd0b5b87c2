import java.util.Random;

/** Runs of up to 512 calls with arguments by chance, compared with the model call by call. */
public final class RandomRunsTest {
    private static final int RUNS = 2400;
    /** An object is used for 512 calls: the last choice in a run makes up to 31, a look at the end 152. */
    private static final int CALLS = 480;
    private static final int CALLS_BEFORE_A_LOOK = 328;
    private static final int[] FAR = {Integer.MIN_VALUE, -257, -2, -1, 256, 10000, Integer.MAX_VALUE};
    private static final int[] INSIDES = {0, 5, 7, 127};
    private static final int[] OUTSIDES = {128, 150, 199, 201, 250, 255};
    private static final String[] LINES = {
        "Pb**,*,*", "Po**,*,*", "Pi**,*,*", "Pot*,*,0-80", "Piu*,5,*", "Sb*127,*,*", "Sb**,127,*",
        "Sou7,250,*", "Sie250-255,*,*", "Dot0-5,128-150,*", "Die*,0007,*", "Pbu*,150-1", "Db**,199,1-255"};
    private static final int[] USUAL_FLAGS = {0, 1, 2, 3, 4, 6, 8};

    private final Check check = new Check("Runs by chance");
    private final LineOracle oracle = new LineOracle();
    private final Random random = new Random(3);
    private final int[] seen = new int[13];
    private PacketGate gate;
    private GateModel model;

    public static void main(String[] args) {
        RandomRunsTest test = new RandomRunsTest();
        for (int run = 0; run < RUNS; run++) {
            test.run(run);
        }
        for (int answer = -11; answer <= 1; answer++) {
            test.check.holds("some packet or call answered " + answer, test.seen[answer + 11] > 0);
        }
        test.check.end();
    }

    private void run(int run) {
        gate = new PacketGate();
        model = new GateModel(oracle);
        int calls = 0;
        boolean wild = run % 10 == 0;
        boolean looks = run % 2 == 0;
        while (calls < (looks ? CALLS_BEFORE_A_LOOK : CALLS)) {
            calls += wild ? wildCall("run " + run) : usualCalls("run " + run);
        }
        if (looks) {
            compareAll("run " + run);
        }
    }

    private void same(String call, int got, int want) {
        check.due(call, got, want);
        if (got >= -11 && got <= 1) {
            seen[got + 11]++;
        }
    }

    private int pick(int... numbers) {
        return numbers[random.nextInt(numbers.length)];
    }

    private int below(int bound) {
        return random.nextInt(60) == 0 ? pick(FAR) : random.nextInt(bound);
    }

    private int protocol() {
        return random.nextInt(80) == 0 ? pick(-1, 3) : random.nextInt(3);
    }

    private int flags() {
        return random.nextInt(6) == 0 ? random.nextInt(18) - 1 : pick(USUAL_FLAGS);
    }

    private int usualCalls(String run) {
        switch (random.nextInt(14)) {
            case 0: return ruleCalls(run);
            case 1: return mappingCalls(run);
            case 2: return timeCalls(run);
            case 3: return lookCalls(run);
            case 4: case 5: return unsealCalls(run);
            case 6: case 7: case 8: return inCalls(run);
            case 9: return reportCalls(run);
            case 10: return flowCalls(run);
            default: return outCalls(run);
        }
    }

    private int ruleCalls(String run) {
        if (random.nextInt(4) == 0) {
            int n = below(18);
            same(run + " withdraw " + n, gate.withdraw(n), model.withdraw(n));
            return 1;
        }
        String line = LINES[random.nextInt(LINES.length)];
        for (int i = 0; i < line.length(); i++) {
            same(run + " type", gate.type(line.charAt(i)), model.type(line.charAt(i)));
        }
        if (random.nextInt(12) > 0) {
            same(run + " install", gate.install(), model.install());
        }
        return line.length() + 1;
    }

    private int mappingCalls(String run) {
        int protocol = protocol();
        int publicPort = random.nextInt(5) == 0 ? below(112) : random.nextInt(3);
        if (random.nextInt(3) == 0) {
            same(run + " hide", gate.hide(protocol, publicPort), model.hide(protocol, publicPort));
            return 1;
        }
        int address = random.nextInt(30) == 0 ? pick(128, 200, -1) : pick(INSIDES);
        int port = random.nextInt(3);
        same(run + " expose", gate.expose(protocol, publicPort, address, port),
                model.expose(protocol, publicPort, address, port));
        return 1;
    }

    private int timeCalls(String run) {
        if (random.nextInt(4) == 0) {
            same(run + " rekey", gate.rekey(), model.rekey());
        } else {
            int n = random.nextInt(10) == 0 ? below(103) : random.nextInt(12);
            same(run + " tick " + n, gate.tick(n), model.tick(n));
        }
        return 1;
    }

    private int lookCalls(String run) {
        int n = below(18);
        int i = below(30);
        same(run + " ruleText", gate.ruleText(n, i), model.ruleText(n, i));
        int what = below(13);
        same(run + " count " + what, gate.count(what), model.count(what));
        int field = below(5);
        same(run + " emission " + field, gate.emission(field), model.emission(field));
        same(run + " flow " + n + " " + i % 9, gate.flow(n, i % 9), model.flow(n, i % 9));
        return 4;
    }

    private int header(String run, int from, int fromPort, int to, int toPort) {
        same(run + " header", gate.header(from, fromPort, to, toPort), model.header(from, fromPort, to, toPort));
        return 1;
    }

    private int unsealCalls(String run) {
        boolean martian = random.nextInt(20) == 0;
        header(run, martian ? pick(200, 5) : pick(OUTSIDES), random.nextInt(3), pick(INSIDES), random.nextInt(3));
        int number = random.nextInt(10) == 0 ? below(4) : model.count(7) - random.nextInt(2);
        int step = random.nextInt(10) == 0 ? 28 + random.nextInt(10) : random.nextInt(60) - 40;
        int sequence = random.nextInt(40) == 0 ? below(10001) : Math.max(1, model.count(9) + step);
        boolean authentic = random.nextInt(5) > 0;
        int protocol = protocol();
        int flags = flags();
        same(run + " unseal", gate.unseal(number, sequence, authentic, protocol, flags),
                model.unseal(number, sequence, authentic, protocol, flags));
        return 2;
    }

    private int inCalls(String run) {
        int publicPort = random.nextBoolean() ? random.nextInt(3) : 100 + random.nextInt(12);
        int to = random.nextInt(30) == 0 ? pick(7, 201, 199) : 200;
        header(run, random.nextInt(30) == 0 ? pick(200, 7) : pick(OUTSIDES), random.nextInt(2), to, publicPort);
        return inward(run);
    }

    private int inward(String run) {
        int protocol = protocol();
        int flags = flags();
        same(run + " inward " + protocol + " " + flags, gate.inward(protocol, flags), model.inward(protocol, flags));
        return 2;
    }

    private int outCalls(String run) {
        int from = random.nextInt(30) == 0 ? pick(128, 200) : pick(INSIDES);
        header(run, from, random.nextInt(5), random.nextInt(30) == 0 ? pick(200, 7) : pick(OUTSIDES), random.nextInt(2));
        return outward(run, random.nextInt(12) == 0 ? 30 : 1 + random.nextInt(4));
    }

    private int outward(String run, int times) {
        int protocol = protocol();
        for (int n = 0; n < times; n++) {
            int flags = flags();
            same(run + " outward " + protocol + " " + flags, gate.outward(protocol, flags),
                    model.outward(protocol, flags));
        }
        return 1 + times;
    }

    private int reportCalls(String run) {
        int i = random.nextInt(Math.max(1, model.count(1)));
        if (model.count(1) > 0 && random.nextBoolean()) {
            header(run, random.nextInt(9) == 0 ? 201 : 200, model.flow(i, 6), model.flow(i, 4), model.flow(i, 5));
        }
        int protocol = random.nextBoolean() ? protocol() : model.flow(i, 1);
        same(run + " report " + protocol, gate.report(protocol), model.report(protocol));
        return 2;
    }

    /** Some packets of a stream in the order that brings it through its states. */
    private int flowCalls(String run) {
        int count = model.count(1);
        if (count == 0) {
            return outCalls(run);
        }
        int i = random.nextInt(count);
        int[] f = new int[8];
        for (int field = 0; field < 8; field++) {
            f[field] = model.flow(i, field);
            same(run + " flow", gate.flow(i, field), f[field]);
        }
        int[] steps = {3, 2, 4, 4};
        for (int step = 0; step < steps.length; step++) {
            int flags = random.nextInt(8) == 0 ? flags() : steps[step];
            if (random.nextBoolean()) {
                header(run, f[4], f[5], 200, f[6]);
                same(run + " inward", gate.inward(f[1], flags), model.inward(f[1], flags));
            } else {
                header(run, f[2], f[3], f[4], f[5]);
                same(run + " outward", gate.outward(f[1], flags), model.outward(f[1], flags));
            }
        }
        return 16;
    }

    /** One call with arguments of any kind. */
    private int wildCall(String run) {
        int a = any();
        int b = any();
        int c = any();
        int d = any();
        boolean yes = random.nextBoolean();
        switch (random.nextInt(16)) {
            case 0: same(run + " type", gate.type(a), model.type(a)); break;
            case 1: same(run + " install", gate.install(), model.install()); break;
            case 2: same(run + " withdraw", gate.withdraw(a), model.withdraw(a)); break;
            case 3: same(run + " ruleText", gate.ruleText(a, b), model.ruleText(a, b)); break;
            case 4: same(run + " expose", gate.expose(a, b, c, d), model.expose(a, b, c, d)); break;
            case 5: same(run + " hide", gate.hide(a, b), model.hide(a, b)); break;
            case 6: same(run + " header", gate.header(a, b, c, d), model.header(a, b, c, d)); break;
            case 7: same(run + " outward", gate.outward(a, b), model.outward(a, b)); break;
            case 8: same(run + " inward", gate.inward(a, b), model.inward(a, b)); break;
            case 9: same(run + " report", gate.report(a), model.report(a)); break;
            case 10: same(run + " unseal", gate.unseal(a, b, yes, c, d), model.unseal(a, b, yes, c, d)); break;
            case 11: same(run + " rekey", gate.rekey(), model.rekey()); break;
            case 12: same(run + " tick", gate.tick(a), model.tick(a)); break;
            case 13: same(run + " emission", gate.emission(a), model.emission(a)); break;
            case 14: same(run + " flow", gate.flow(a, b), model.flow(a, b)); break;
            default: same(run + " count", gate.count(a), model.count(a)); break;
        }
        return 1;
    }

    private int any() {
        switch (random.nextInt(4)) {
            case 0: return pick(FAR);
            case 1: return random.nextInt();
            case 2: return random.nextInt(260);
            default: return random.nextInt(4);
        }
    }

    private void compareAll(String run) {
        for (int what = 0; what < 12; what++) {
            same(run + " count " + what + " at the end", gate.count(what), model.count(what));
        }
        for (int i = 0; i < 17; i++) {
            for (int field = 0; field < 8; field++) {
                same(run + " flow " + i + " " + field + " at the end", gate.flow(i, field), model.flow(i, field));
            }
        }
        for (int field = 0; field < 4; field++) {
            same(run + " emission " + field + " at the end", gate.emission(field), model.emission(field));
        }
    }
}
