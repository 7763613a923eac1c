import java.lang.management.ManagementFactory;
import java.lang.reflect.Array;
import java.lang.reflect.Field;
import java.lang.reflect.Modifier;
import java.util.ArrayList;
import java.util.IdentityHashMap;
import java.util.List;
import java.util.Map;

/** What an object holds is counted, and calls on a great frame must make next to nothing new. */
public final class StaysInTheRoom {
    private static final int MOST_PARTS = 3000;
    private static final int MOST_ELEMENTS = 120000;
    private static final long MOST_BYTES = 200000;

    public static void main(String[] args) throws IllegalAccessException {
        HingeFrames x = greatFrame();
        play(x);
        HingeFrames[] frames = new HingeFrames[10];
        for (int i = 0; i < frames.length; i++) {
            frames[i] = greatFrame();
        }
        com.sun.management.ThreadMXBean bean = (com.sun.management.ThreadMXBean) ManagementFactory.getThreadMXBean();
        long before = bean.getCurrentThreadAllocatedBytes();
        for (HingeFrames f : frames) {
            play(f);
            play(f);
        }
        long made = bean.getCurrentThreadAllocatedBytes() - before;
        Map<Object, Object> seen = new IdentityHashMap<>();
        long elements = countAll(x, seen);
        System.out.println(seen.size() + " objects and arrays, " + elements + " fields and elements, " + made + " bytes made by calls");
        if (seen.size() > MOST_PARTS || elements > MOST_ELEMENTS || made > MOST_BYTES) {
            System.exit(1);
        }
    }

    /** Seven BARS with 594 PLAIN FALLS and those turned round. */
    private static HingeFrames greatFrame() {
        int[][] joints = {{0, 1, 4}, {3, 1, 7}, {0, 5, 0}, {3, 6, 2}, {5, 1, 0}, {3, 5, 2}, {5, 6, 0}};
        int[][] bars = {{3, 6}, {3, 1}, {0, 2}, {2, 5}, {5, 3}, {4, 6}, {0, 4}};
        HingeFrames x = new HingeFrames();
        for (int[] j : joints) {
            x.joint(j[0], j[1], j[2]);
        }
        for (int[] b : bars) {
            x.bar(b[0], b[1], 10 + b[0], 12 - b[1]);
        }
        x.feed(1, 5, 9, 20, 50);
        x.list(5);
        return x;
    }

    private static void play(HingeFrames x) {
        for (int b = 0; b < 7; b++) {
            x.load(b % 6, b, 10 - b, b - 8);
            x.group(b, b % 3);
            x.pin(2 * b, true);
            x.greatest(b % 6, 0);
            x.pin(2 * b, false);
            x.worth(b % 6, b, 0);
            x.out(b % 6, b, 0);
            x.fall(b % 6, b);
            x.feed(b, 0, -b, 0, 1);
            x.feed(b, 0, -b, 0, 1);
            x.feed(b, 0, -b, 0, 1);
            x.turning(b % 6);
            x.rolls(b, -b, 127);
            x.metal(63, -1);
            x.falls(-1);
            x.undo();
        }
        while (x.undo() > 30) {
            x.redo();
            x.undo();
        }
    }

    private static long countAll(Object root, Map<Object, Object> seen) throws IllegalAccessException {
        List<Object> open = new ArrayList<>();
        open.add(root);
        seen.put(root, root);
        long elements = 0;
        while (!open.isEmpty()) {
            Object o = open.remove(open.size() - 1);
            List<Object> parts = new ArrayList<>();
            elements += o.getClass().isArray() ? arrayParts(o, parts) : fieldParts(o, parts);
            for (Object p : parts) {
                if (p != null && seen.put(p, p) == null) {
                    open.add(p);
                }
            }
        }
        return elements;
    }

    private static int arrayParts(Object o, List<Object> parts) {
        int n = Array.getLength(o);
        for (int i = 0; i < n && !o.getClass().getComponentType().isPrimitive(); i++) {
            parts.add(Array.get(o, i));
        }
        return n;
    }

    private static int fieldParts(Object o, List<Object> parts) throws IllegalAccessException {
        int n = 0;
        for (Field f : o.getClass().getDeclaredFields()) {
            if (!Modifier.isStatic(f.getModifiers())) {
                n++;
                f.setAccessible(true);
                if (!f.getType().isPrimitive()) {
                    parts.add(f.get(o));
                }
            }
        }
        return n;
    }
}
