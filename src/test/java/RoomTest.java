import java.lang.management.ManagementFactory;
import java.lang.reflect.Array;
import java.lang.reflect.Field;
import java.lang.reflect.Modifier;
import java.util.ArrayDeque;
import java.util.Collections;
import java.util.Deque;
import java.util.IdentityHashMap;
import java.util.Set;

/**
 * All calls of a run live in one room, in which nothing is taken away: so a house is small, and its
 * calls make nothing but exceptions.
 */
public final class RoomTest {
    private static int objects;
    private static int numbers;

    public static void main(String[] args) throws IllegalAccessException {
        Meshquiver x = new Meshquiver();
        measure(x);
        int before = objects + numbers;
        Check.isTrue("a house has at most 3000 objects and arrays, and has " + objects, objects <= 3000);
        Check.isTrue("and 100000 fields and elements, and has " + numbers, numbers <= 100000);
        // The first round makes the machine load its classes.
        play(x);
        Meshquiver y = new Meshquiver();
        long start = allocated();
        play(y);
        long made = allocated() - start;
        Check.isTrue("calls make nothing, and made " + made + " bytes", made < 2000);
        measure(y);
        // It may let go of the empty modules that it begins with.
        int after = objects + numbers;
        Check.isTrue("a house does not grow, from " + before + " to " + after, after <= before);
        Check.finish();
    }

    private static long allocated() {
        return ((com.sun.management.ThreadMXBean) ManagementFactory.getThreadMXBean())
                .getThreadAllocatedBytes(Thread.currentThread().getId());
    }

    private static void measure(Object root) throws IllegalAccessException {
        objects = 0;
        numbers = 0;
        Set<Object> seen = Collections.newSetFromMap(new IdentityHashMap<>());
        Deque<Object> open = new ArrayDeque<>();
        open.add(root);
        while (!open.isEmpty()) {
            Object at = open.poll();
            if (!seen.add(at)) {
                continue;
            }
            objects++;
            if (at.getClass().isArray()) {
                numbers += Array.getLength(at);
                if (!at.getClass().getComponentType().isPrimitive()) {
                    for (int i = 0; i < Array.getLength(at); i++) {
                        open.add(Array.get(at, i));
                    }
                }
                continue;
            }
            for (Field field : at.getClass().getDeclaredFields()) {
                if (!Modifier.isStatic(field.getModifiers())) {
                    numbers++;
                    field.setAccessible(true);
                    Object value = field.getType().isPrimitive() ? null : field.get(at);
                    if (value != null) {
                        open.add(value);
                    }
                }
            }
        }
    }

    /** Each call that answers, some of them dear. */
    private static void play(Meshquiver x) {
        for (int v = 0; v < 4; v++) {
            x.vertex();
        }
        x.arrow(0, 1);
        x.arrow(1, 2);
        x.arrow(3, 2);
        for (int v = 0; v < 4; v++) {
            x.projective(v);
            x.injective(v);
        }
        x.type(1);
        x.type(2);
        x.type(2);
        x.type(1);
        int m = x.module();
        x.entry(m, 0, 0, 0, 1);
        x.entry(m, 0, 1, 0, 1);
        x.entry(m, 1, 0, 0, 1);
        x.entry(m, 1, 1, 1, 1);
        x.entry(m, 2, 1, 0, 1);
        x.sum(0, 1);
        x.weight(0, 3);
        for (int round = 0; round < 5; round++) {
            x.pieces(m);
            x.piece(m, 0, 0);
            x.areAlike(m, m);
            x.maps(m, 0);
            x.syzygy(m, 6, 0);
            x.extensions(m, 0);
            x.resolution(m);
            x.type(1);
            x.type(1);
            x.type(1);
            x.type(1);
            x.submodules(m);
            x.stability(m);
            x.filtration(m, 0, 0);
            x.bars(m, 0, 3);
            x.layers(m);
            x.top(m, 1);
            x.socle(m, 1);
            x.rank(m, 0);
            x.holds(m);
            x.kind();
            x.roots();
            x.orbit(3);
            x.translate(3);
            x.between(1, 2, true);
            x.mesh(1, 2);
            x.tilting();
            x.isTilting(15);
            x.turn(round % 4);
            x.turned(0, 1);
            x.checksum(m);
            x.zeroShare(m);
            x.meanDimension();
            x.isConsistent();
        }
    }
}
