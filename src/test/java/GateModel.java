import java.util.ArrayList;
import java.util.HashMap;
import java.util.HashSet;
import java.util.List;
import java.util.Map;
import java.util.Set;

/**
 * The document once more, in another form than the program's: mappings are objects that flows hold,
 * associations keep every number that they accepted, and lines are judged by the oracle.
 */
final class GateModel {
    private record Endpoint(int address, int port) {
        boolean isInside() {
            return address < 128;
        }

        boolean isOutside() {
            return address >= 128 && address != 200;
        }
    }

    private record Range(int low, int high) {
        static Range of(String text) {
            if (text.equals("*")) {
                return new Range(0, 255);
            }
            String[] ends = text.split("-");
            return new Range(Integer.parseInt(ends[0]), Integer.parseInt(ends[ends.length - 1]));
        }

        boolean fits(int n) {
            return low <= n && n <= high;
        }

        String text() {
            return low == 0 && high == 255 ? "*" : low == high ? "" + low : low + "-" + high;
        }
    }

    private record Rule(char action, char direction, char protocol, Range source, Range target, Range port) {
        boolean matches(char way, int number, Endpoint from, Endpoint to) {
            return (direction == 'b' || direction == way) && (protocol == '*' || "tue".indexOf(protocol) == number)
                    && source.fits(from.address) && target.fits(to.address) && port.fits(to.port);
        }

        String text() {
            return "" + action + direction + protocol + source.text() + "," + target.text() + "," + port.text();
        }
    }

    private record Mapping(int protocol, Endpoint inside, int publicPort, boolean exposed) {
    }

    private static final class Flow {
        Mapping mapping;
        Endpoint outside;
        boolean openedInside;
        boolean insideClosed;
        boolean outsideClosed;
        int state;
        int last;
    }

    private static final class Association {
        int sequence = 0;
        final Set<Integer> accepted = new HashSet<>();

        int top() {
            return accepted.stream().mapToInt(n -> n).max().orElse(0);
        }
    }

    private final LineOracle oracle;
    private String line = "";
    private int badPlace = -1;
    private final List<Rule> rules = new ArrayList<>();
    private final List<Mapping> mappings = new ArrayList<>();
    private final List<Flow> flows = new ArrayList<>();
    private final Map<Integer, Association> associations = new HashMap<>();
    private int current = 1;
    private int beforeEnd = 0;
    private Endpoint source = new Endpoint(0, 0);
    private Endpoint target = new Endpoint(0, 0);
    private int[] emission = null;
    private int time = 0;
    private int passed = 0;
    private int stopped = 0;

    GateModel(LineOracle oracle) {
        this.oracle = oracle;
        associations.put(1, new Association());
    }

    int type(int c) {
        if (c < 0 || c > 127 || "PDSiobtue*-,0123456789".indexOf(c) < 0) {
            return -1;
        }
        if (line.length() == 40) {
            return -3;
        }
        line += (char) c;
        return line.length();
    }

    int install() {
        String typed = line;
        line = "";
        if (rules.size() == 16) {
            return -3;
        }
        int place = oracle.badPlace(typed);
        if (place != LineOracle.GOOD) {
            badPlace = place;
            return -2;
        }
        String[] ranges = typed.substring(3).split(",");
        rules.add(new Rule(typed.charAt(0), typed.charAt(1), typed.charAt(2), Range.of(ranges[0]),
                Range.of(ranges[1]), Range.of(ranges[2])));
        return rules.size();
    }

    int withdraw(int n) {
        if (n < 1 || n > rules.size()) {
            return -1;
        }
        rules.remove(n - 1);
        return rules.size();
    }

    int ruleText(int n, int i) {
        if (n < 1 || n > rules.size() || i < 0) {
            return -1;
        }
        String text = rules.get(n - 1).text();
        return i < text.length() ? text.charAt(i) : 0;
    }

    int expose(int protocol, int publicPort, int address, int port) {
        if (outOf(protocol, 2) || outOf(publicPort, 99) || outOf(address, 127) || outOf(port, 255)) {
            return -1;
        }
        Endpoint inside = new Endpoint(address, port);
        if (mappingOf(protocol, publicPort) != null || mappingOf(protocol, inside) != null) {
            return -6;
        }
        if (count(2) == 4) {
            return -3;
        }
        mappings.add(new Mapping(protocol, inside, publicPort, true));
        return 0;
    }

    int hide(int protocol, int publicPort) {
        Mapping mapping = mappingOf(protocol, publicPort);
        if (mapping == null || !mapping.exposed) {
            return -1;
        }
        flows.removeIf(flow -> flow.mapping == mapping);
        mappings.remove(mapping);
        return 0;
    }

    int header(int from, int fromPort, int to, int toPort) {
        if (outOf(from, 255) || outOf(fromPort, 255) || outOf(to, 255) || outOf(toPort, 255)) {
            return -1;
        }
        source = new Endpoint(from, fromPort);
        target = new Endpoint(to, toPort);
        return 0;
    }

    int outward(int protocol, int flags) {
        return outOf(protocol, 2) || outOf(flags, 15) ? -1 : counted(goOut(protocol, flags));
    }

    private int goOut(int protocol, int flags) {
        if (!source.isInside() || !target.isOutside()) {
            return -5;
        }
        Mapping mapping = mappingOf(protocol, source);
        Flow flow = flowOf(mapping, target);
        if (flow == null) {
            char action = policy('o', protocol, source, target);
            if (action == 'D') {
                return -4;
            }
            if (action == 'S') {
                Association association = associations.get(current);
                if (association.sequence == 40) {
                    return -11;
                }
                association.sequence++;
                emission = new int[] {200, current, 250, association.sequence};
                return 1;
            }
            if (protocol == 0 && flags != 1) {
                return -6;
            }
            if (flows.size() == 16) {
                return -7;
            }
            if (mapping == null) {
                mapping = make(protocol, source);
            }
            if (mapping == null) {
                return -7;
            }
            open(mapping, target, true);
        } else if (!follow(flow, true, flags)) {
            return -6;
        }
        emission = new int[] {200, mapping.publicPort, target.address, target.port};
        return 0;
    }

    int inward(int protocol, int flags) {
        return outOf(protocol, 2) || outOf(flags, 15) ? -1 : counted(goIn(protocol, flags));
    }

    private int goIn(int protocol, int flags) {
        if (!source.isOutside() || target.address != 200) {
            return -5;
        }
        Mapping mapping = mappingOf(protocol, target.port);
        if (mapping == null) {
            return -4;
        }
        Flow flow = flowOf(mapping, source);
        if (flow == null) {
            if (policy('i', protocol, source, mapping.inside) != 'P') {
                return -4;
            }
            if (protocol == 0 && flags != 1) {
                return -6;
            }
            if (flows.size() == 16) {
                return -7;
            }
            open(mapping, source, false);
        } else if (!follow(flow, false, flags)) {
            return -6;
        }
        emit(source, mapping.inside);
        return 0;
    }

    int report(int protocol) {
        if (outOf(protocol, 2)) {
            return -1;
        }
        for (Flow flow : flows) {
            if (flow.mapping.protocol == protocol && source.address == 200
                    && flow.mapping.publicPort == source.port && flow.outside.equals(target)) {
                emit(flow.mapping.inside, target);
                return counted(0);
            }
        }
        return counted(-4);
    }

    int unseal(int number, int sequence, boolean authentic, int protocol, int flags) {
        if (sequence < 1 || sequence > 9999 || outOf(protocol, 2) || outOf(flags, 15)) {
            return -1;
        }
        return counted(open(number, sequence, authentic, protocol));
    }

    private int open(int number, int sequence, boolean authentic, int protocol) {
        Association association = associations.get(number);
        if (association == null || number != current && beforeEnd <= time) {
            return -10;
        }
        if (sequence <= association.top() - 32 || association.accepted.contains(sequence)) {
            return -8;
        }
        if (!authentic) {
            return -9;
        }
        association.accepted.add(sequence);
        if (!source.isOutside() || !target.isInside()) {
            return -5;
        }
        if (policy('i', protocol, source, target) != 'S') {
            return -4;
        }
        emit(source, target);
        return 0;
    }

    int rekey() {
        associations.remove(current - 1);
        current++;
        associations.put(current, new Association());
        beforeEnd = time + 20;
        return current;
    }

    int tick(int n) {
        if (n < 1 || n > 100) {
            return -1;
        }
        time += n;
        int[] limits = {0, 10, 10, 60, 30, 5, 10, 30};
        flows.removeIf(flow -> time - flow.last >= limits[flow.state]);
        dropUnused();
        return time;
    }

    int emission(int field) {
        return emission == null || outOf(field, 3) ? -1 : emission[field];
    }

    int flow(int i, int field) {
        if (i < 0 || i >= flows.size() || outOf(field, 7)) {
            return -1;
        }
        Flow flow = flows.get(i);
        Mapping mapping = flow.mapping;
        return new int[] {flow.state, mapping.protocol, mapping.inside.address, mapping.inside.port,
            flow.outside.address, flow.outside.port, mapping.publicPort, flow.last}[field];
    }

    int count(int what) {
        if (outOf(what, 11)) {
            return -1;
        }
        int exposed = (int) mappings.stream().filter(Mapping::exposed).count();
        Association association = associations.get(current);
        return new int[] {rules.size(), flows.size(), exposed, mappings.size() - exposed, passed, stopped, time,
            current, association.sequence, association.top(), line.length(), badPlace}[what];
    }

    private static boolean outOf(int n, int greatest) {
        return n < 0 || n > greatest;
    }

    private int counted(int answer) {
        if (answer >= 0) {
            passed++;
        } else {
            stopped++;
        }
        return answer;
    }

    private void emit(Endpoint from, Endpoint to) {
        emission = new int[] {from.address, from.port, to.address, to.port};
    }

    private char policy(char way, int protocol, Endpoint from, Endpoint to) {
        for (Rule rule : rules) {
            if (rule.matches(way, protocol, from, to)) {
                return rule.action;
            }
        }
        return 'D';
    }

    private Mapping mappingOf(int protocol, int publicPort) {
        for (Mapping mapping : mappings) {
            if (mapping.protocol == protocol && mapping.publicPort == publicPort) {
                return mapping;
            }
        }
        return null;
    }

    private Mapping mappingOf(int protocol, Endpoint inside) {
        for (Mapping mapping : mappings) {
            if (mapping.protocol == protocol && mapping.inside.equals(inside)) {
                return mapping;
            }
        }
        return null;
    }

    private Mapping make(int protocol, Endpoint inside) {
        for (int port = 100; port <= 111; port++) {
            if (mappingOf(protocol, port) == null) {
                Mapping made = new Mapping(protocol, inside, port, false);
                mappings.add(made);
                return made;
            }
        }
        return null;
    }

    private Flow flowOf(Mapping mapping, Endpoint outside) {
        for (Flow flow : flows) {
            if (flow.mapping == mapping && flow.outside.equals(outside)) {
                return flow;
            }
        }
        return null;
    }

    private void open(Mapping mapping, Endpoint outside, boolean fromInside) {
        Flow flow = new Flow();
        flow.mapping = mapping;
        flow.outside = outside;
        flow.openedInside = fromInside;
        flow.state = mapping.protocol == 0 ? 1 : 6;
        flow.last = time;
        flows.add(flow);
    }

    private void dropUnused() {
        mappings.removeIf(mapping -> !mapping.exposed
                && flows.stream().noneMatch(flow -> flow.mapping == mapping));
    }

    private boolean follow(Flow flow, boolean fromInside, int flags) {
        boolean opener = fromInside == flow.openedInside;
        boolean syn = (flags & 1) != 0;
        boolean ack = (flags & 2) != 0;
        boolean fin = (flags & 4) != 0;
        if (flow.mapping.protocol != 0) {
            flow.state = opener ? flow.state : 7;
        } else if ((flags & 8) != 0) {
            flows.remove(flow);
            dropUnused();
        } else if (flow.state <= 2 && !opener) {
            if (!syn || !ack || fin) {
                return false;
            }
            flow.state = 2;
        } else if (flow.state == 1) {
            if (!syn || ack || fin) {
                return false;
            }
        } else if (syn || flow.state == 2 && !ack) {
            return false;
        } else {
            flow.insideClosed |= fin && fromInside;
            flow.outsideClosed |= fin && !fromInside;
            flow.state = flow.insideClosed && flow.outsideClosed ? 5
                    : flow.insideClosed || flow.outsideClosed ? 4 : 3;
        }
        flow.last = time;
        return true;
    }
}
