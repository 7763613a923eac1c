import java.lang.reflect.Field;
import java.util.Random;

/**
 * WORK of TURNS is told by whole gains and one scale for all: on frames by chance (fixed seed), gain
 * times a row's pivot must be scale times PARTS times that row's MOVES, with nothing lost by division.
 */
public final class GainsAreExact {
    private static final long PARTS = 60;

    public static void main(String[] args) throws ReflectiveOperationException {
        int frames = args.length > 0 ? Integer.parseInt(args[0]) : 6000;
        Random r = new Random(11);
        int wrong = 0;
        int scaled = 0;
        for (int i = 0; i < frames && wrong < 5; i++) {
            HingeFrames x = frameByChance(r);
            x.free(0);
            Object shape = get(get(x, "whole"), "shape");
            scaled += (long) get(shape, "scale") > 1 ? 1 : 0;
            if (!isExact(shape)) {
                wrong++;
                System.out.println("frame " + i + ": a gain is not exact");
            }
        }
        System.out.println(frames + " frames, " + scaled + " with a scale above 1, " + wrong + " wrong");
        if (wrong != 0 || scaled == 0) {
            System.exit(1);
        }
    }

    private static Object get(Object o, String name) throws ReflectiveOperationException {
        Field f = o.getClass().getDeclaredField(name);
        f.setAccessible(true);
        return f.get(o);
    }

    private static boolean isExact(Object shape) throws ReflectiveOperationException {
        long[][] gain = (long[][]) get(shape, "gain");
        long[][] row = (long[][]) get(shape, "row");
        int[] pivot = (int[]) get(shape, "pivot");
        int ends = (int) get(shape, "ends");
        long scale = (long) get(shape, "scale");
        for (int i = 0; i < (int) get(shape, "rank"); i++) {
            for (int k = 0; k < (int) get(shape, "moves"); k++) {
                long left = Math.multiplyExact(gain[i][k], row[i][pivot[i]]);
                if (left != Math.multiplyExact(Math.multiplyExact(scale, PARTS), row[i][ends + k])) {
                    return false;
                }
            }
        }
        return scale > 0;
    }

    /** Seven JOINTS on three lines each way, up to seven BARS, and many pins, which bring great scales. */
    private static HingeFrames frameByChance(Random r) {
        HingeFrames x = new HingeFrames();
        int[] xs = {r.nextInt(7), r.nextInt(7), r.nextInt(7)};
        int[] ys = {r.nextInt(7), r.nextInt(7), r.nextInt(7)};
        for (int t = 0; t < 30 && x.count(0) < 7; t++) {
            x.joint(xs[r.nextInt(3)], ys[r.nextInt(3)], r.nextInt(3) == 0 ? 7 : r.nextInt(8));
        }
        for (int t = 0; t < 60 && x.count(1) < 7; t++) {
            x.bar(r.nextInt(7), r.nextInt(7), 1, 1);
        }
        for (int e = 0; e < 14; e++) {
            if (r.nextInt(3) == 0) {
                x.pin(e, true);
            }
        }
        return x;
    }
}
