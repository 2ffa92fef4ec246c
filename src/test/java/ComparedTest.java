import java.lang.reflect.InvocationTargetException;
import java.lang.reflect.Method;
import java.util.Arrays;
import java.util.Random;

/** Runs of mixed calls, the same each time, on the program and on the slow model of the document. */
public final class ComparedTest {
    private static final int RUNS = 400;
    private static final int CALLS = 512;
    private static final String[] NAMES = {
        "joint", "unjoint", "open", "direction", "pull", "blocks", "block", "corner", "find", "beside",
        "goes", "take", "order", "taken", "back", "mode", "told"};
    private static final int[] WEIGHTS = {14, 3, 10, 7, 12, 3, 30, 40, 8, 14, 20, 20, 3, 10, 2, 60, 6};

    private static int wrong = 0;
    private static long calls = 0;

    private final Random random;
    private final WedgePlanes program;
    private final SlowModel model;
    private final int spread;
    private final int[] size;

    private ComparedTest(int run) {
        random = new Random(run * 7919L + 17);
        size = new int[] {1 + random.nextInt(8), 1 + random.nextInt(8), 1 + random.nextInt(8)};
        // Small parts make planes that are parallel, or meet in a line or in one point, often.
        spread = run % 3 == 0 ? 1 : run % 3 == 1 ? 2 : 6;
        program = new WedgePlanes(size[0], size[1], size[2]);
        model = new SlowModel(size[0], size[1], size[2]);
    }

    public static void main(String[] args) throws Exception {
        for (int run = 0; run < RUNS && wrong < 20; run++) {
            new ComparedTest(run).go(run);
        }
        System.out.println(calls + " calls compared, " + wrong + " wrong");
        if (wrong != 0) {
            System.exit(1);
        }
    }

    private void go(int run) throws Exception {
        StringBuilder story = new StringBuilder("new WedgePlanes" + Arrays.toString(size));
        for (int i = 0; i < CALLS; i++) {
            // Joints and directions come first in most runs, so that there is something to ask for.
            String name = i < 6 ? "joint" : i < 9 ? "direction" : i < 11 ? "open" : pick();
            Object[] given = arguments(name);
            String got = answer(program, name, given);
            String due = answer(model, name, given);
            story.append("; ").append(name).append(Arrays.toString(given)).append(" -> ").append(got);
            calls++;
            if (!got.equals(due)) {
                wrong++;
                System.out.println("run " + run + ": due is " + due + " at the end of " + story);
                return;
            }
        }
    }

    private String pick() {
        int at = random.nextInt(Arrays.stream(WEIGHTS).sum());
        int i = 0;
        while (at >= WEIGHTS[i]) {
            at -= WEIGHTS[i];
            i++;
        }
        // Few joints go or come after the first ones, or hardly a block would stay taken for long.
        return (NAMES[i].endsWith("joint") || NAMES[i].equals("back")) && random.nextInt(3) != 0 ? "mode" : NAMES[i];
    }

    private int part(int most) {
        return random.nextInt(60) == 0 ? wild() : random.nextInt(2 * most + 1) - most;
    }

    private int wild() {
        int[] wild = {Integer.MIN_VALUE, Integer.MAX_VALUE, 7, -7, 10, -10, 101, -101, 1 << 30};
        return wild[random.nextInt(wild.length)];
    }

    private int upTo(int count) {
        int r = random.nextInt(50);
        return r == 0 ? wild() : r == 1 ? -1 : r == 2 ? count : random.nextInt(Math.max(1, count));
    }

    private Object[] arguments(String name) {
        int k = upTo(model.blocks());
        switch (name) {
            case "joint": {
                int a = part(spread);
                int b = part(spread);
                int c = part(spread);
                int near = (clip(a) * size[0] + clip(b) * size[1] + clip(c) * size[2]) / 2;
                return new Object[] {a, b, c, near + part(spread == 1 ? 2 : 6)};
            }
            case "open": return new Object[] {random.nextInt(20) == 0 ? part(20) : 6 + random.nextInt(6), random.nextInt(3) != 0};
            case "direction":
            case "pull": return new Object[] {part(9) / (1 + random.nextInt(4)), part(9) / (1 + random.nextInt(4)), part(9)};
            case "block": return new Object[] {k, upTo(5)};
            case "corner": return new Object[] {k, upTo(k >= 0 && k < model.blocks() ? model.block(k, 2) : 3), upTo(4)};
            case "find": return new Object[] {upTo(1 << model.told(0))};
            case "beside": return new Object[] {k, upTo(model.told(0))};
            case "goes": return new Object[] {k, upTo(model.told(1))};
            case "taken": return new Object[] {upTo(model.told(2)), upTo(2)};
            case "take":
            case "mode": return new Object[] {k};
            case "told": return new Object[] {upTo(4)};
            default: return new Object[0];
        }
    }

    private static int clip(int part) {
        return Math.max(-6, Math.min(6, part));
    }

    private static String answer(Object on, String name, Object[] given) throws Exception {
        Method method = Arrays.stream(on.getClass().getMethods()).filter(m -> m.getName().equals(name)).findFirst().get();
        try {
            return String.valueOf(method.invoke(on, given));
        } catch (InvocationTargetException e) {
            return "throws." + e.getCause().getClass().getSimpleName();
        }
    }
}
