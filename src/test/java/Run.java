import java.lang.reflect.InvocationTargetException;
import java.lang.reflect.Method;
import java.util.ArrayList;
import java.util.List;

/**
 * A run of calls on one new object, each call told as text. A run makes at most 512 calls, as the
 * document promises nothing behind them; one call more is a fault of the test.
 */
final class Run {
    static final String ARGUMENT = "throws.IllegalArgumentException";
    static final String STATE = "throws.IllegalStateException";
    static final String BOUNDS = "throws.IndexOutOfBoundsException";

    /** What lies far from every bound of the document. */
    static final int[] FAR = {Integer.MIN_VALUE, -65, 65, Integer.MAX_VALUE};

    private static final int MOST_CALLS = 512;

    private static String words = "";
    private static int sentences = 0;
    private static int wrong = 0;

    private final WedgePlanes rock;
    private final StringBuilder story = new StringBuilder();
    private int calls = 0;

    private Run(int x, int y, int z) {
        rock = new WedgePlanes(x, y, z);
        story.append("new WedgePlanes(").append(x).append(", ").append(y).append(", ").append(z).append(")");
    }

    static Run on(int x, int y, int z) {
        return new Run(x, y, z);
    }

    /** The document's words that the runs behind this call test. */
    static void sentence(String text) {
        words = text;
        sentences++;
    }

    static void end(String name) {
        System.out.println(name + ": " + sentences + " sentences, " + wrong + " answers not as due");
        if (wrong != 0) {
            System.exit(1);
        }
    }

    static void fault(String what) {
        wrong++;
        System.out.println("\"" + words + "\": " + what);
    }

    /** Calls that come before what is tested: they must not throw. */
    Run first(String... texts) {
        for (String text : texts) {
            String got = answer(text);
            if (got.startsWith("throws.")) {
                fault(story + ": it should not throw");
            }
        }
        return this;
    }

    Run due(String call, Object want) {
        String got = answer(call);
        if (!got.equals(String.valueOf(want))) {
            fault(story + ": due is " + want);
        }
        return this;
    }

    /** A corner in one text: "x y z / q". */
    Run dueCorner(int k, int i, String want) {
        String at = "corner(" + k + ", " + i + ", ";
        String got = answer(at + "0)") + " " + answer(at + "1)") + " " + answer(at + "2)") + " / " + answer(at + "3)");
        if (!got.equals(want)) {
            fault(story + ": due is " + want);
        }
        return this;
    }

    Run dueCorners(int k, String... wants) {
        due("block(" + k + ", 2)", wants.length);
        for (int i = 0; i < wants.length; i++) {
            dueCorner(k, i, wants[i]);
        }
        return this;
    }

    Run dueTaken(int... blocksAndDirections) {
        due("told(2)", blocksAndDirections.length / 2);
        for (int i = 0; i < blocksAndDirections.length; i++) {
            due("taken(" + i / 2 + ", " + i % 2 + ")", blocksAndDirections[i]);
        }
        return this;
    }

    int number(String call) {
        return Integer.parseInt(answer(call));
    }

    /** What one call answers; an exception as throws. and its name. */
    String answer(String call) {
        calls++;
        if (calls > MOST_CALLS) {
            throw new AssertionError("more than " + MOST_CALLS + " calls in a test: " + words);
        }
        String got = invoke(call);
        story.append("; ").append(call).append(" -> ").append(got);
        return got;
    }

    private String invoke(String call) {
        int at = call.indexOf('(');
        List<Object> given = new ArrayList<>();
        for (String part : call.substring(at + 1, call.length() - 1).split(",")) {
            String text = part.trim();
            if (text.equals("true") || text.equals("false")) {
                given.add(text.equals("true"));
            } else if (!text.isEmpty()) {
                given.add(Integer.parseInt(text));
            }
        }
        try {
            return String.valueOf(method(call.substring(0, at)).invoke(rock, given.toArray()));
        } catch (InvocationTargetException e) {
            return "throws." + e.getCause().getClass().getSimpleName();
        } catch (IllegalAccessException e) {
            throw new AssertionError(e);
        }
    }

    private static Method method(String name) {
        for (Method m : WedgePlanes.class.getDeclaredMethods()) {
            if (m.getName().equals(name)) {
                return m;
            }
        }
        throw new AssertionError("no method " + name);
    }
}
