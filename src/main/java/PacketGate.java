/**
 * A gateway between an inside and an outside network: rules read from lines of text, flows with
 * states and timers, translation of inside endpoints to ports of one public address, and sealed
 * traffic with a peer under associations with a window against replays.
 *
 * <p>An endpoint is held as one number, address * 256 + port. All rows are made in the constructors
 * and used again, so that no call makes an object.
 */
public final class PacketGate {
    /** Let through; done. */
    public static final int PASSED = 0;
    /** Sealed and sent to the peer. */
    public static final int SEALED = 1;
    /** A number out of range. */
    public static final int REFUSED = -1;
    /** The line is not good. */
    public static final int SYNTAX = -2;
    /** No room for a character, a rule or an exposed mapping. */
    public static final int FULL = -3;
    /** Not let through by the policy, or there is nothing that it belongs to. */
    public static final int DROPPED = -4;
    /** Addresses that can't be. */
    public static final int MARTIAN = -5;
    /** A packet that doesn't fit its flow or can't open one. */
    public static final int STATE = -6;
    /** No room for a flow or a mapping. */
    public static final int NO_ROOM = -7;
    /** A sequence number too old or accepted before. */
    public static final int REPLAY = -8;
    /** A sealed packet that the peer has not sealed. */
    public static final int FORGED = -9;
    /** No such association. */
    public static final int UNKNOWN = -10;
    /** The association has sealed 40 packets. */
    public static final int EXHAUSTED = -11;

    private static final int PUBLIC = 200;
    private static final int PEER = 250;
    private static final int GREATEST_BYTE = 255;
    private static final int GREATEST_INSIDE = 127;
    private static final int GREATEST_EXPOSED_PORT = 99;
    private static final int GREATEST_SEQUENCE = 9999;
    private static final int LONGEST_TICK = 100;
    private static final int SEALS_PER_ASSOCIATION = 40;
    private static final int BEFORE_STAYS = 20;

    /** What a search answers that has found nothing, and the bad place before there was one. */
    private static final int NONE = -1;

    private static final int STREAM = 0;
    private static final int GREATEST_PROTOCOL = 2;

    private static final int SYN = 1;
    private static final int ACK = 2;
    private static final int FIN = 4;
    private static final int RST = 8;
    private static final int GREATEST_FLAGS = 15;

    // The place of a letter in its text is the number that stands for its meaning.
    private static final String ACTION_LETTERS = "PDS";
    private static final int PERMIT = 0;
    private static final int DROP = 1;
    private static final int SEAL = 2;
    private static final String DIRECTION_LETTERS = "iob";
    private static final int INWARD = 0;
    private static final int OUTWARD = 1;
    private static final int BOTH = 2;
    private static final String PROTOCOL_LETTERS = "tue*";
    private static final int ANY_PROTOCOL = 3;

    private final Line line;
    private final RuleReader reader;
    private final RuleBook rules;
    private final Line ruleLine;
    private final Exposures exposures;
    private final FlowTable flows;
    private final int[] emitted;
    private Association current;
    private Association before;
    private int source;
    private int target;
    private int time;
    private int letThrough;
    private int notLetThrough;
    private int badPlace;

    public PacketGate() {
        line = new Line();
        reader = new RuleReader();
        rules = new RuleBook();
        ruleLine = new Line();
        exposures = new Exposures();
        flows = new FlowTable();
        emitted = new int[4];
        current = new Association();
        current.begin(1);
        // Its END 0 is never above TIME, so that number 0 is unknown from the first.
        before = new Association();
        source = 0;
        target = 0;
        time = 0;
        letThrough = 0;
        notLetThrough = 0;
        badPlace = NONE;
    }

    public int type(int c) {
        if (!Line.isAllowed(c)) {
            return REFUSED;
        }
        if (line.isFull()) {
            return FULL;
        }
        line.add((char) c);
        return line.length;
    }

    public int install() {
        int answer = rules.isFull() ? FULL : installLine();
        line.clear();
        return answer;
    }

    private int installLine() {
        if (!reader.read(line, rules.spare())) {
            badPlace = reader.place;
            return SYNTAX;
        }
        return rules.addSpare();
    }

    public int withdraw(int n) {
        if (!rules.has(n)) {
            return REFUSED;
        }
        rules.remove(n);
        return rules.size;
    }

    public int ruleText(int n, int i) {
        if (!rules.has(n) || i < 0) {
            return REFUSED;
        }
        rules.get(n).write(ruleLine);
        return i < ruleLine.length ? ruleLine.at(i) : 0;
    }

    public int expose(int protocol, int publicPort, int address, int port) {
        if (!isProtocol(protocol) || !isWithin(publicPort, GREATEST_EXPOSED_PORT)
                || !isWithin(address, GREATEST_INSIDE) || !isWithin(port, GREATEST_BYTE)) {
            return REFUSED;
        }
        int inside = endpoint(address, port);
        if (mappedEndpoint(protocol, publicPort) != NONE || mappedPort(protocol, inside) != NONE) {
            return STATE;
        }
        if (exposures.isFull()) {
            return FULL;
        }
        exposures.add(protocol, publicPort, inside);
        return PASSED;
    }

    public int hide(int protocol, int publicPort) {
        int i = exposures.find(protocol, publicPort);
        if (i == NONE) {
            return REFUSED;
        }
        exposures.remove(i);
        flows.endMapped(protocol, publicPort);
        return PASSED;
    }

    public int header(int source, int sourcePort, int target, int targetPort) {
        if (!isWithin(source, GREATEST_BYTE) || !isWithin(sourcePort, GREATEST_BYTE)
                || !isWithin(target, GREATEST_BYTE) || !isWithin(targetPort, GREATEST_BYTE)) {
            return REFUSED;
        }
        this.source = endpoint(source, sourcePort);
        this.target = endpoint(target, targetPort);
        return PASSED;
    }

    public int outward(int protocol, int flags) {
        if (!isProtocol(protocol) || !isWithin(flags, GREATEST_FLAGS)) {
            return REFUSED;
        }
        return counted(passOutward(protocol, flags));
    }

    private int passOutward(int protocol, int flags) {
        if (!isInside(source) || !isOutside(target)) {
            return MARTIAN;
        }
        int i = flows.find(protocol, source, target);
        if (i != NONE) {
            // A reset takes the flow away, so its port is read before the packet is followed.
            int publicPort = flows.get(i).publicPort;
            return flows.follow(i, true, flags, time) ? sendOut(publicPort) : STATE;
        }
        int action = rules.policy(OUTWARD, protocol, source, target);
        if (action == DROP) {
            return DROPPED;
        }
        return action == SEAL ? sealPacket() : openOutward(protocol, flags);
    }

    private int openOutward(int protocol, int flags) {
        if (!Flow.canBegin(protocol, flags)) {
            return STATE;
        }
        if (flows.isFull()) {
            return NO_ROOM;
        }
        int publicPort = mappedPort(protocol, source);
        if (publicPort == NONE) {
            publicPort = flows.freePort(protocol);
        }
        if (publicPort == NONE) {
            return NO_ROOM;
        }
        flows.addSpare().begin(protocol, source, target, publicPort, true, time);
        return sendOut(publicPort);
    }

    private int sendOut(int publicPort) {
        emit(PUBLIC, publicPort, addressOf(target), portOf(target));
        return PASSED;
    }

    private int sealPacket() {
        if (current.sequence >= SEALS_PER_ASSOCIATION) {
            return EXHAUSTED;
        }
        current.sequence++;
        emit(PUBLIC, current.number, PEER, current.sequence);
        return SEALED;
    }

    public int inward(int protocol, int flags) {
        if (!isProtocol(protocol) || !isWithin(flags, GREATEST_FLAGS)) {
            return REFUSED;
        }
        return counted(passInward(protocol, flags));
    }

    private int passInward(int protocol, int flags) {
        if (!isOutside(source) || addressOf(target) != PUBLIC) {
            return MARTIAN;
        }
        int inside = mappedEndpoint(protocol, portOf(target));
        if (inside == NONE) {
            return DROPPED;
        }
        int i = flows.find(protocol, inside, source);
        if (i != NONE) {
            return flows.follow(i, false, flags, time) ? sendBetween(source, inside) : STATE;
        }
        if (rules.policy(INWARD, protocol, source, inside) != PERMIT) {
            return DROPPED;
        }
        return openInward(protocol, flags, inside);
    }

    private int openInward(int protocol, int flags, int inside) {
        if (!Flow.canBegin(protocol, flags)) {
            return STATE;
        }
        if (flows.isFull()) {
            return NO_ROOM;
        }
        flows.addSpare().begin(protocol, inside, source, portOf(target), false, time);
        return sendBetween(source, inside);
    }

    private int sendBetween(int from, int to) {
        emit(addressOf(from), portOf(from), addressOf(to), portOf(to));
        return PASSED;
    }

    public int report(int protocol) {
        if (!isProtocol(protocol)) {
            return REFUSED;
        }
        return counted(passReport(protocol));
    }

    private int passReport(int protocol) {
        if (addressOf(source) != PUBLIC) {
            return DROPPED;
        }
        int inside = mappedEndpoint(protocol, portOf(source));
        if (inside == NONE || flows.find(protocol, inside, target) == NONE) {
            return DROPPED;
        }
        return sendBetween(inside, target);
    }

    public int unseal(int association, int sequence, boolean authentic, int protocol, int flags) {
        if (sequence < 1 || sequence > GREATEST_SEQUENCE || !isProtocol(protocol)
                || !isWithin(flags, GREATEST_FLAGS)) {
            return REFUSED;
        }
        if (association == current.number) {
            return counted(passSealed(current, sequence, authentic, protocol));
        }
        if (association == before.number && before.end > time) {
            return counted(passSealed(before, sequence, authentic, protocol));
        }
        return counted(UNKNOWN);
    }

    private int passSealed(Association association, int sequence, boolean authentic, int protocol) {
        if (association.isReplay(sequence)) {
            return REPLAY;
        }
        if (!authentic) {
            return FORGED;
        }
        association.accept(sequence);
        if (!isOutside(source) || !isInside(target)) {
            return MARTIAN;
        }
        if (rules.policy(INWARD, protocol, source, target) != SEAL) {
            return DROPPED;
        }
        return sendBetween(source, target);
    }

    public int rekey() {
        Association next = before;
        before = current;
        before.end = time + BEFORE_STAYS;
        current = next;
        current.begin(before.number + 1);
        return current.number;
    }

    public int tick(int n) {
        if (n < 1 || n > LONGEST_TICK) {
            return REFUSED;
        }
        time += n;
        flows.endTimedOut(time);
        return time;
    }

    public int emission(int field) {
        // A packet that was let through is what makes an emission, so their count tells of one.
        if (letThrough == 0 || field < 0 || field >= emitted.length) {
            return REFUSED;
        }
        return emitted[field];
    }

    public int flow(int i, int field) {
        if (!flows.has(i)) {
            return REFUSED;
        }
        return flows.get(i).fieldOrRefused(field);
    }

    public int count(int what) {
        switch (what) {
            case 0: return rules.size;
            case 1: return flows.size;
            case 2: return exposures.size;
            case 3: return flows.mappingsMade();
            case 4: return letThrough;
            case 5: return notLetThrough;
            case 6: return time;
            case 7: return current.number;
            case 8: return current.sequence;
            case 9: return current.top;
            case 10: return line.length;
            case 11: return badPlace;
            default: return REFUSED;
        }
    }

    private int counted(int answer) {
        if (answer >= PASSED) {
            letThrough++;
        } else {
            notLetThrough++;
        }
        return answer;
    }

    private void emit(int fromAddress, int fromPort, int toAddress, int toPort) {
        emitted[0] = fromAddress;
        emitted[1] = fromPort;
        emitted[2] = toAddress;
        emitted[3] = toPort;
    }

    /** The public port of the mapping that the inside endpoint has, or NONE. */
    private int mappedPort(int protocol, int inside) {
        int exposed = exposures.portOfInside(protocol, inside);
        return exposed != NONE ? exposed : flows.portOfInside(protocol, inside);
    }

    /** The inside endpoint of the mapping that has the public port, or NONE. */
    private int mappedEndpoint(int protocol, int publicPort) {
        int exposed = exposures.insideOfPort(protocol, publicPort);
        return exposed != NONE ? exposed : flows.insideOfPort(protocol, publicPort);
    }

    private static boolean isWithin(int number, int greatest) {
        return number >= 0 && number <= greatest;
    }

    private static boolean isProtocol(int protocol) {
        return isWithin(protocol, GREATEST_PROTOCOL);
    }

    private static boolean isInside(int endpoint) {
        return addressOf(endpoint) <= GREATEST_INSIDE;
    }

    private static boolean isOutside(int endpoint) {
        return !isInside(endpoint) && addressOf(endpoint) != PUBLIC;
    }

    private static int endpoint(int address, int port) {
        return address * 256 + port;
    }

    private static int addressOf(int endpoint) {
        return endpoint / 256;
    }

    private static int portOf(int endpoint) {
        return endpoint % 256;
    }

    /** A text of at most 40 characters. */
    private static final class Line {
        private static final int CAPACITY = 40;
        private static final String ALLOWED = "PDSiobtue*-,0123456789";

        private final char[] characters;
        int length;

        Line() {
            characters = new char[CAPACITY];
            length = 0;
        }

        static boolean isAllowed(int c) {
            return isWithin(c, GREATEST_BYTE) && ALLOWED.indexOf((char) c) >= 0;
        }

        boolean isFull() {
            return length >= CAPACITY;
        }

        void add(char c) {
            if (!isFull()) {
                characters[length] = c;
                length++;
            }
        }

        void addNumber(int number) {
            if (number >= 100) {
                add(digit(number / 100));
            }
            if (number >= 10) {
                add(digit(number / 10 % 10));
            }
            add(digit(number % 10));
        }

        private static char digit(int worth) {
            return (char) ('0' + worth);
        }

        /** The character at a place; behind the end one that no line can hold. */
        char at(int place) {
            return place >= 0 && place < length ? characters[place] : ' ';
        }

        void clear() {
            length = 0;
        }
    }

    /** Reads a line from left to right; where it can't go on, its place is the bad place. */
    private static final class RuleReader {
        private static final int MOST_DIGITS = 3;

        int place;

        RuleReader() {
            place = 0;
        }

        boolean read(Line line, Rule rule) {
            place = 0;
            return readLetters(line, rule)
                    && readRange(line, rule, Rule.SOURCE) && readMark(line, ',')
                    && readRange(line, rule, Rule.TARGET) && readMark(line, ',')
                    && readRange(line, rule, Rule.TARGET_PORT) && place == line.length;
        }

        private boolean readLetters(Line line, Rule rule) {
            rule.action = readOneOf(line, ACTION_LETTERS);
            if (rule.action == NONE) {
                return false;
            }
            rule.direction = readOneOf(line, DIRECTION_LETTERS);
            if (rule.direction == NONE) {
                return false;
            }
            rule.protocol = readOneOf(line, PROTOCOL_LETTERS);
            return rule.protocol != NONE;
        }

        private int readOneOf(Line line, String letters) {
            int found = letters.indexOf(line.at(place));
            if (found != NONE) {
                place++;
            }
            return found;
        }

        private boolean readMark(Line line, char mark) {
            if (line.at(place) != mark) {
                return false;
            }
            place++;
            return true;
        }

        private boolean readRange(Line line, Rule rule, int which) {
            if (readMark(line, '*')) {
                rule.setRange(which, 0, GREATEST_BYTE);
                return true;
            }
            int low = readNumber(line, 0);
            if (low == NONE) {
                return false;
            }
            int high = readMark(line, '-') ? readNumber(line, low) : low;
            if (high == NONE) {
                return false;
            }
            rule.setRange(which, low, high);
            return true;
        }

        /** A number that isn't below the least one, or NONE. */
        private int readNumber(Line line, int least) {
            int number = 0;
            int digits = 0;
            while (place < line.length && isDigit(line.at(place))) {
                number = number * 10 + (line.at(place) - '0');
                digits++;
                if (digits > MOST_DIGITS || number > GREATEST_BYTE
                        || greatestFrom(number, digits) < least) {
                    return NONE;
                }
                place++;
            }
            return digits > 0 && number >= least ? number : NONE;
        }

        /** The greatest number up to 255 that these digits, or these and some more, can come to. */
        private static int greatestFrom(int number, int digits) {
            int greatest = number;
            int least = number;
            int most = number;
            for (int more = digits; more < MOST_DIGITS; more++) {
                least = least * 10;
                most = most * 10 + 9;
                if (least <= GREATEST_BYTE) {
                    greatest = Math.min(most, GREATEST_BYTE);
                }
            }
            return greatest;
        }

        private static boolean isDigit(char c) {
            return c >= '0' && c <= '9';
        }
    }

    /** One rule, with its ranges for source address, target address and target port. */
    private static final class Rule {
        static final int SOURCE = 0;
        static final int TARGET = 1;
        static final int TARGET_PORT = 2;
        private static final int RANGES = 3;

        int action;
        int direction;
        int protocol;
        private final int[] lows;
        private final int[] highs;

        Rule() {
            action = DROP;
            direction = BOTH;
            protocol = ANY_PROTOCOL;
            lows = new int[RANGES];
            highs = new int[RANGES];
        }

        void setRange(int which, int low, int high) {
            lows[which] = low;
            highs[which] = high;
        }

        boolean matches(int packetDirection, int packetProtocol, int source, int target) {
            return (direction == BOTH || direction == packetDirection)
                    && (protocol == ANY_PROTOCOL || protocol == packetProtocol)
                    && contains(SOURCE, addressOf(source))
                    && contains(TARGET, addressOf(target))
                    && contains(TARGET_PORT, portOf(target));
        }

        private boolean contains(int which, int number) {
            return lows[which] <= number && number <= highs[which];
        }

        void write(Line text) {
            text.clear();
            text.add(ACTION_LETTERS.charAt(action));
            text.add(DIRECTION_LETTERS.charAt(direction));
            text.add(PROTOCOL_LETTERS.charAt(protocol));
            for (int which = 0; which < RANGES; which++) {
                if (which > 0) {
                    text.add(',');
                }
                writeRange(text, lows[which], highs[which]);
            }
        }

        private static void writeRange(Line text, int low, int high) {
            if (low == 0 && high == GREATEST_BYTE) {
                text.add('*');
                return;
            }
            text.addNumber(low);
            if (low != high) {
                text.add('-');
                text.addNumber(high);
            }
        }
    }

    /** The rules in order, numbered from 1. */
    private static final class RuleBook {
        private static final int CAPACITY = 16;

        private final Rule[] rows;
        int size;

        RuleBook() {
            // One row more than can be rules, so that there always is a spare one.
            rows = new Rule[CAPACITY + 1];
            for (int i = 0; i < rows.length; i++) {
                rows[i] = new Rule();
            }
            size = 0;
        }

        boolean isFull() {
            return size >= CAPACITY;
        }

        boolean has(int n) {
            return n >= 1 && n <= size;
        }

        Rule get(int n) {
            return rows[n - 1];
        }

        /** A row that is no rule yet: what is written there does no harm. */
        Rule spare() {
            return rows[size];
        }

        /** Makes the spare row the last rule and answers its number. */
        int addSpare() {
            size++;
            return size;
        }

        void remove(int n) {
            Rule removed = rows[n - 1];
            for (int i = n; i < size; i++) {
                rows[i - 1] = rows[i];
            }
            rows[size - 1] = removed;
            size--;
        }

        int policy(int direction, int protocol, int source, int target) {
            for (int i = 0; i < size; i++) {
                if (rows[i].matches(direction, protocol, source, target)) {
                    return rows[i].action;
                }
            }
            return DROP;
        }
    }

    /** The exposed mappings, in no order. */
    private static final class Exposures {
        private static final int CAPACITY = 4;

        private final int[] protocols;
        private final int[] publicPorts;
        private final int[] insides;
        int size;

        Exposures() {
            protocols = new int[CAPACITY];
            publicPorts = new int[CAPACITY];
            insides = new int[CAPACITY];
            size = 0;
        }

        boolean isFull() {
            return size >= CAPACITY;
        }

        void add(int protocol, int publicPort, int inside) {
            protocols[size] = protocol;
            publicPorts[size] = publicPort;
            insides[size] = inside;
            size++;
        }

        void remove(int i) {
            int last = size - 1;
            protocols[i] = protocols[last];
            publicPorts[i] = publicPorts[last];
            insides[i] = insides[last];
            size = last;
        }

        int find(int protocol, int publicPort) {
            for (int i = 0; i < size; i++) {
                if (protocols[i] == protocol && publicPorts[i] == publicPort) {
                    return i;
                }
            }
            return NONE;
        }

        int insideOfPort(int protocol, int publicPort) {
            int i = find(protocol, publicPort);
            return i == NONE ? NONE : insides[i];
        }

        int portOfInside(int protocol, int inside) {
            for (int i = 0; i < size; i++) {
                if (protocols[i] == protocol && insides[i] == inside) {
                    return publicPorts[i];
                }
            }
            return NONE;
        }
    }

    /** One flow with its STATE. */
    private static final class Flow {
        static final int ENDED = 0;
        private static final int BAD = -1;
        private static final int BEGUN = 1;
        private static final int ANSWERED = 2;
        private static final int OPEN = 3;
        private static final int HALF_CLOSED = 4;
        private static final int CLOSED = 5;
        private static final int ONE_SIDED = 6;
        private static final int TWO_SIDED = 7;
        private static final int[] LIMITS = {0, 10, 10, 60, 30, 5, 10, 30};

        int protocol;
        int inside;
        int outside;
        int publicPort;
        int state;
        private int last;
        private boolean openedInside;
        private boolean closedInside;

        Flow() {
            state = ENDED;
        }

        static boolean canBegin(int protocol, int flags) {
            return protocol != STREAM || flags == SYN;
        }

        void begin(int protocol, int inside, int outside, int publicPort, boolean fromInside, int time) {
            this.protocol = protocol;
            this.inside = inside;
            this.outside = outside;
            this.publicPort = publicPort;
            state = protocol == STREAM ? BEGUN : ONE_SIDED;
            last = time;
            openedInside = fromInside;
            closedInside = false;
        }

        /** Takes the flow through a packet; a bad one answers false and changes nothing. */
        boolean follow(boolean fromInside, int flags, int time) {
            int next = stateAfter(fromInside, flags);
            if (next == BAD) {
                return false;
            }
            if (next == HALF_CLOSED && state != HALF_CLOSED) {
                closedInside = fromInside;
            }
            state = next;
            last = time;
            return true;
        }

        private int stateAfter(boolean fromInside, int flags) {
            boolean fromOpener = fromInside == openedInside;
            if (protocol != STREAM) {
                return fromOpener ? state : TWO_SIDED;
            }
            if ((flags & RST) != 0) {
                return ENDED;
            }
            if (state == BEGUN) {
                return afterBegun(fromOpener, flags);
            }
            if (state == ANSWERED) {
                return afterAnswered(fromOpener, flags);
            }
            return afterOpen(fromInside, flags);
        }

        private static int afterBegun(boolean fromOpener, int flags) {
            if (fromOpener) {
                return flags == SYN ? BEGUN : BAD;
            }
            return flags == (SYN | ACK) ? ANSWERED : BAD;
        }

        private static int afterAnswered(boolean fromOpener, int flags) {
            if (!fromOpener) {
                return flags == (SYN | ACK) ? ANSWERED : BAD;
            }
            if ((flags & ACK) == 0 || (flags & SYN) != 0) {
                return BAD;
            }
            return (flags & FIN) != 0 ? HALF_CLOSED : OPEN;
        }

        private int afterOpen(boolean fromInside, int flags) {
            if ((flags & SYN) != 0) {
                return BAD;
            }
            if ((flags & FIN) == 0) {
                return state;
            }
            if (state == OPEN) {
                return HALF_CLOSED;
            }
            return state == HALF_CLOSED && fromInside == closedInside ? HALF_CLOSED : CLOSED;
        }

        boolean isTimedOut(int time) {
            return time - last >= LIMITS[state];
        }

        int fieldOrRefused(int field) {
            switch (field) {
                case 0: return state;
                case 1: return protocol;
                case 2: return addressOf(inside);
                case 3: return portOf(inside);
                case 4: return addressOf(outside);
                case 5: return portOf(outside);
                case 6: return publicPort;
                case 7: return last;
                default: return REFUSED;
            }
        }
    }

    /**
     * The flows in the order in which they were opened. A mapping that isn't exposed stands just as
     * long as a flow has it, so the flows are the only record of it.
     */
    private static final class FlowTable {
        private static final int CAPACITY = 16;
        private static final int FIRST_PORT = 100;
        private static final int LAST_PORT = 111;

        private final Flow[] rows;
        int size;

        FlowTable() {
            rows = new Flow[CAPACITY];
            for (int i = 0; i < rows.length; i++) {
                rows[i] = new Flow();
            }
            size = 0;
        }

        boolean isFull() {
            return size >= CAPACITY;
        }

        boolean has(int i) {
            return i >= 0 && i < size;
        }

        Flow get(int i) {
            return rows[i];
        }

        /** A new last row, for the caller to begin, who has seen that there is room. */
        Flow addSpare() {
            Flow added = rows[size];
            size++;
            return added;
        }

        int find(int protocol, int inside, int outside) {
            for (int i = 0; i < size; i++) {
                Flow row = rows[i];
                if (row.protocol == protocol && row.inside == inside && row.outside == outside) {
                    return i;
                }
            }
            return NONE;
        }

        boolean follow(int i, boolean fromInside, int flags, int time) {
            if (!rows[i].follow(fromInside, flags, time)) {
                return false;
            }
            if (rows[i].state == Flow.ENDED) {
                remove(i);
            }
            return true;
        }

        private void remove(int i) {
            Flow removed = rows[i];
            for (int k = i + 1; k < size; k++) {
                rows[k - 1] = rows[k];
            }
            rows[size - 1] = removed;
            size--;
        }

        void endTimedOut(int time) {
            // From the last one down, so that those that move have been looked at.
            for (int i = size - 1; i >= 0; i--) {
                if (rows[i].isTimedOut(time)) {
                    remove(i);
                }
            }
        }

        void endMapped(int protocol, int publicPort) {
            for (int i = size - 1; i >= 0; i--) {
                if (rows[i].protocol == protocol && rows[i].publicPort == publicPort) {
                    remove(i);
                }
            }
        }

        int insideOfPort(int protocol, int publicPort) {
            int i = findPort(protocol, publicPort);
            return i == NONE ? NONE : rows[i].inside;
        }

        private int findPort(int protocol, int publicPort) {
            for (int i = 0; i < size; i++) {
                if (rows[i].protocol == protocol && rows[i].publicPort == publicPort) {
                    return i;
                }
            }
            return NONE;
        }

        int portOfInside(int protocol, int inside) {
            for (int i = 0; i < size; i++) {
                if (rows[i].protocol == protocol && rows[i].inside == inside) {
                    return rows[i].publicPort;
                }
            }
            return NONE;
        }

        /** The least port for a new mapping of the protocol, or NONE. */
        int freePort(int protocol) {
            for (int port = FIRST_PORT; port <= LAST_PORT; port++) {
                if (findPort(protocol, port) == NONE) {
                    return port;
                }
            }
            return NONE;
        }

        /** How many mappings were made for flows: each is counted at the first flow that has it. */
        int mappingsMade() {
            int made = 0;
            for (int i = 0; i < size; i++) {
                Flow row = rows[i];
                if (row.publicPort >= FIRST_PORT && findPort(row.protocol, row.publicPort) == i) {
                    made++;
                }
            }
            return made;
        }
    }

    /** What was sealed and what was accepted under one number. */
    private static final class Association {
        private static final int WINDOW = 32;

        int number;
        int sequence;
        int top;
        int end;
        /** Bit k tells whether top - k was accepted. */
        private int accepted;

        Association() {
            begin(0);
        }

        void begin(int number) {
            this.number = number;
            sequence = 0;
            top = 0;
            end = 0;
            accepted = 0;
        }

        boolean isReplay(int received) {
            if (received > top) {
                return false;
            }
            int age = top - received;
            return age >= WINDOW || ((accepted >>> age) & 1) != 0;
        }

        void accept(int received) {
            if (received > top) {
                int moved = received - top;
                // A shift by the whole width would leave the bits where they are.
                accepted = moved < WINDOW ? (accepted << moved) | 1 : 1;
                top = received;
            } else {
                accepted = accepted | (1 << (top - received));
            }
        }
    }
}
