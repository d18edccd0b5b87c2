import java.lang.management.ManagementFactory;
import java.lang.reflect.Array;
import java.lang.reflect.Field;
import java.lang.reflect.Modifier;
import java.util.ArrayDeque;
import java.util.Deque;
import java.util.IdentityHashMap;
import java.util.Map;

/** The room that a gate takes: all calls of a run live in one room, so what is made there is counted. */
public final class RoomTest {
    private static final int OBJECTS = 84;
    private static final int MOST_CELLS = 1000;
    private static final int CALLS = 512;
    private static final int GATES = 200;
    /** Bytes: fewer than these for each gate mean that there are gates for which no object was made. */
    private static final int LEAST_OBJECT = 16;

    private int objects;
    private int cells;

    public static void main(String[] args) throws IllegalAccessException {
        Check check = new Check("Room");
        PacketGate gate = new PacketGate();
        RoomTest first = roomOf(gate);
        check.due("objects and arrays of a new gate", first.objects, OBJECTS);
        check.holds(first.cells + " fields and elements of a new gate", first.cells <= MOST_CELLS);
        useUp(gate);
        RoomTest after = roomOf(gate);
        check.due("objects and arrays after " + CALLS + " calls", after.objects, OBJECTS);
        check.due("fields and elements after " + CALLS + " calls", after.cells, first.cells);
        checkMadeByCalls(check);
        check.end();
    }

    private static RoomTest roomOf(PacketGate gate) throws IllegalAccessException {
        RoomTest room = new RoomTest();
        Map<Object, Boolean> seen = new IdentityHashMap<>();
        Deque<Object> open = new ArrayDeque<>();
        open.add(gate);
        seen.put(gate, true);
        while (!open.isEmpty()) {
            Object one = open.remove();
            room.objects++;
            if (one.getClass().isArray()) {
                room.addElements(one, seen, open);
            } else {
                room.addFields(one, seen, open);
            }
        }
        return room;
    }

    private void addElements(Object array, Map<Object, Boolean> seen, Deque<Object> open) {
        int length = Array.getLength(array);
        cells += length;
        for (int i = 0; i < length && !array.getClass().getComponentType().isPrimitive(); i++) {
            addReference(Array.get(array, i), seen, open);
        }
    }

    private void addFields(Object one, Map<Object, Boolean> seen, Deque<Object> open) throws IllegalAccessException {
        for (Field field : one.getClass().getDeclaredFields()) {
            if (!Modifier.isStatic(field.getModifiers())) {
                cells++;
                field.setAccessible(true);
                if (!field.getType().isPrimitive()) {
                    addReference(field.get(one), seen, open);
                }
            }
        }
    }

    private static void addReference(Object found, Map<Object, Boolean> seen, Deque<Object> open) {
        if (found != null && seen.put(found, true) == null) {
            open.add(found);
        }
    }

    /** The virtual machine counts the bytes that a thread takes, some of them for the counting itself. */
    private static void checkMadeByCalls(Check check) {
        com.sun.management.ThreadMXBean counter =
                (com.sun.management.ThreadMXBean) ManagementFactory.getThreadMXBean();
        PacketGate[] gates = new PacketGate[GATES];
        for (int i = 0; i < GATES; i++) {
            gates[i] = new PacketGate();
        }
        useUp(new PacketGate());
        long before = counter.getCurrentThreadAllocatedBytes();
        for (PacketGate gate : gates) {
            useUp(gate);
        }
        long taken = counter.getCurrentThreadAllocatedBytes() - before;
        check.holds(taken + " bytes taken by " + GATES * CALLS + " calls", taken < GATES * LEAST_OBJECT);
    }

    /** Makes 512 calls, all kinds among them: a rule, exposures, flows of all protocols, seals, bad lines. */
    private static void useUp(PacketGate gate) {
        int calls = 0;
        for (int round = 0; calls < CALLS; round++) {
            for (int step = 0; step < 24 && calls < CALLS; step++) {
                call(gate, round, step);
                calls++;
            }
        }
    }

    private static int call(PacketGate gate, int round, int step) {
        switch (step) {
            case 8: return gate.install();
            case 9: return gate.ruleText(1, round);
            case 10: return gate.expose(round % 3, round, 7, 80);
            case 11: return gate.header(5 + round % 14, 40, 150, 80);
            case 12: return gate.outward(round % 3, 1);
            case 13: return gate.header(150, 80, 200, 100 + round % 14);
            case 14: return gate.inward(round % 3, 3);
            case 15: return gate.header(200, 100, 150, 80);
            case 16: return gate.report(round % 3);
            case 17: return gate.header(150, 80, 5, 40);
            case 18: return gate.unseal(1 + round / 9, 1 + round, round % 2 == 0, 0, 0);
            case 19: return round % 9 == 8 ? gate.rekey() : gate.emission(0);
            case 20: return round % 5 == 4 ? gate.tick(3) : gate.count(3);
            case 21: return round % 7 == 6 ? gate.hide(round % 3, round) : gate.flow(0, 0);
            case 22: return round % 4 == 3 ? gate.withdraw(round % 17) : gate.count(11);
            case 23: return gate.flow(round % 16, round % 8);
            default: return gate.type("Pb**,*,*Sb**,*,*Pb*3-2,*".charAt(8 * (round % 3) + step));
        }
    }
}
