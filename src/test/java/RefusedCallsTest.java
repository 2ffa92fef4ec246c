import java.util.ArrayList;
import java.util.List;

/**
 * Each refused call, on objects that are new, in use and full: it throws what its comment names
 * first, and changes nothing. To see that, the same object is made a second time without the
 * refused call, and both are asked for all there is and then used on.
 */
public final class RefusedCallsTest {
    private static final String[] NEW = {};

    /** Two blocks of four are taken, one by each direction; the pull is not the first one. */
    private static final String[] IN_USE = {
        "open(10, true)", "open(11, true)", "direction(0, 0, 1)", "direction(0, 0, -1)", "joint(1, 0, 0, 2)",
        "joint(1, 0, 2, 6)", "pull(1, 0, -3)", "take(3)", "take(0)"};

    /** Six joints, eight directions, all seven blocks taken. */
    private static final String[] FULL = {
        "joint(0, 0, 1, 1)", "joint(0, 0, 1, 2)", "joint(0, 0, 1, 3)", "joint(0, 0, 2, 3)", "joint(0, 0, 2, 5)", "joint(0, 0, 2, 7)",
        "direction(1, 0, 0)", "direction(0, 1, 0)", "direction(0, 0, -1)", "direction(-1, 0, 0)", "direction(0, -1, 0)",
        "direction(1, 1, 1)", "direction(0, 0, 1)", "direction(9, 9, 9)", "open(11, true)", "order()"};

    public static void main(String[] args) {
        statesAreAsTold();
        joint();
        open();
        direction();
        pull();
        asking();
        taking();
        firstNamedOfSeveral();
        Run.end("refused calls");
    }

    private static void statesAreAsTold() {
        Run.sentence("(the objects that the refused calls are made on)");
        Run.on(4, 4, 4).first(IN_USE).due("blocks()", 4).dueTaken(3, 0, 0, 1);
        Run.on(4, 4, 4).first(FULL).due("told(0)", 6).due("told(1)", 8).due("told(2)", 7).due("blocks()", 7);
    }

    private static void joint() {
        Run.sentence("joint .. throws; a call that throws changes nothing");
        for (String plane : new String[] {"0, 0, 0, 0", "7, 0, 0, 9", "0, -7, 0, -9", "0, 0, 7, 9", "6, 6, 6, 101", "-6, -6, -6, -101",
            "1, 0, 0, 0", "1, 0, 0, 4", "1, 1, 1, 12", "1, 1, 1, -1", Integer.MIN_VALUE + ", 0, 0, 1"}) {
            refused(NEW, "joint(" + plane + ")", Run.ARGUMENT);
            refused(IN_USE, "joint(" + plane + ")", Run.ARGUMENT);
            refused(FULL, "joint(" + plane + ")", Run.ARGUMENT);
        }
        refused(IN_USE, "joint(1, 0, 0, 2)", Run.ARGUMENT);
        refused(IN_USE, "joint(-2, 0, -4, -12)", Run.ARGUMENT);
        refused(FULL, "joint(1, 0, 0, 2)", Run.STATE);
        refused(FULL, "joint(6, -6, 6, 1)", Run.STATE);
    }

    private static void open() {
        Run.sentence("open .. throws; a call that throws changes nothing");
        for (int face : new int[] {Integer.MIN_VALUE, -1, 0, 5, 12, 38, Integer.MAX_VALUE}) {
            for (String[] state : new String[][] {NEW, IN_USE, FULL}) {
                refused(state, "open(" + face + ", true)", Run.BOUNDS);
                refused(state, "open(" + face + ", false)", Run.BOUNDS);
            }
        }
    }

    private static void direction() {
        Run.sentence("direction .. throws; a call that throws changes nothing");
        for (String parts : new String[] {"0, 0, 0", "10, 0, 0", "0, 10, 0", "0, 0, 10", "-10, 1, 1", "1, -10, 1", "1, 1, -10"}) {
            refused(NEW, "direction(" + parts + ")", Run.ARGUMENT);
            refused(IN_USE, "direction(" + parts + ")", Run.ARGUMENT);
            refused(FULL, "direction(" + parts + ")", Run.ARGUMENT);
        }
        refused(FULL, "direction(0, 0, 1)", Run.STATE);
        refused(FULL, "direction(-9, 9, -9)", Run.STATE);
    }

    private static void pull() {
        Run.sentence("pull .. throws; a call that throws changes nothing");
        for (String parts : new String[] {"10, 0, 0", "0, 10, 0", "0, 0, 10", "-10, 1, 1", "1, -10, 1", "1, 1, -10"}) {
            refused(NEW, "pull(" + parts + ")", Run.ARGUMENT);
            refused(IN_USE, "pull(" + parts + ")", Run.ARGUMENT);
            refused(FULL, "pull(" + parts + ")", Run.ARGUMENT);
        }
    }

    private static void asking() {
        Run.sentence("block, corner, beside, goes, taken, mode, told .. throw; a call that throws changes nothing");
        for (String[] state : new String[][] {NEW, IN_USE, FULL}) {
            for (String call : new String[] {"block(-1, 0)", "block(7, 0)", "block(0, -1)", "block(0, 5)", "corner(-1, 0, 0)",
                "corner(7, 0, 0)", "corner(0, -1, 0)", "corner(0, 11, 0)", "corner(0, 0, -1)", "corner(0, 0, 4)", "beside(-1, 0)",
                "beside(7, 0)", "beside(0, -1)", "beside(0, 6)", "goes(-1, 0)", "goes(7, 0)", "goes(0, -1)", "goes(0, 8)",
                "taken(-1, 0)", "taken(7, 0)", "taken(0, -1)", "taken(0, 2)", "mode(-1)", "mode(7)", "told(-1)", "told(4)"}) {
                refused(state, call, Run.BOUNDS);
            }
        }
    }

    private static void taking() {
        Run.sentence("take .. throws; a call that throws changes nothing");
        for (int k : new int[] {Integer.MIN_VALUE, -1, 7, 64, Integer.MAX_VALUE}) {
            refused(NEW, "take(" + k + ")", Run.BOUNDS);
            refused(IN_USE, "take(" + k + ")", Run.BOUNDS);
            refused(FULL, "take(" + k + ")", Run.BOUNDS);
        }
    }

    private static void firstNamedOfSeveral() {
        Run.sentence("Methods throw what their comments name, the one named first when several would do");
        Run run = Run.on(4, 4, 4).first(FULL);
        // No such plane, or the same as one of the six, though there are six.
        for (String plane : new String[] {"0, 0, 0, 1", "0, 0, 7, 8", "6, 6, 6, 101", "0, 0, 1, 4", "0, 0, 1, 1", "0, 0, 4, 14", "0, 0, -6, -9"}) {
            run.due("joint(" + plane + ")", Run.ARGUMENT);
        }
        run.due("joint(0, 0, 4, 5)", Run.STATE);
        for (String parts : new String[] {"0, 0, 0", "10, 0, 0", "0, -10, 0", "0, 0, " + Integer.MIN_VALUE}) {
            run.due("direction(" + parts + ")", Run.ARGUMENT);
        }
        run.due("direction(0, 0, 9)", Run.STATE);
    }

    private static void refused(String[] state, String call, String want) {
        Run with = Run.on(4, 4, 4).first(state).due(call, want);
        Run without = Run.on(4, 4, 4).first(state);
        String seen = answers(with);
        String before = answers(without);
        if (!seen.equals(before)) {
            Run.fault(call + " changed something: " + seen + " was " + before);
        }
    }

    /** All answers first, then what calls that change the object make of it. */
    private static String answers(Run run) {
        List<String> texts = new ArrayList<>();
        int blocks = run.number("blocks()");
        int joints = run.number("told(0)");
        int directions = run.number("told(1)");
        int taken = run.number("told(2)");
        texts.add(blocks + " " + joints + " " + directions + " " + taken + " " + run.answer("told(3)"));
        for (int k = 0; k < blocks; k++) {
            texts.add("block " + k);
            ask(run, texts, "block(" + k + ", %d)", 5);
            ask(run, texts, "beside(" + k + ", %d)", joints);
            ask(run, texts, "goes(" + k + ", %d)", directions);
            ask(run, texts, "corner(" + k + ", 0, %d)", 4);
            ask(run, texts, "corner(" + k + ", 3, %d)", 4);
            texts.add(run.answer("mode(" + k + ")"));
        }
        texts.add("taken");
        ask(run, texts, "taken(%d, 0)", taken);
        ask(run, texts, "taken(%d, 1)", taken);
        useOn(run, texts, blocks, directions);
        return String.join(" ", texts);
    }

    private static void useOn(Run run, List<String> texts, int blocks, int directions) {
        texts.add("used on");
        for (String call : new String[] {"order()", "back()", "open(6, true)", "open(7, true)", "open(8, true)", "open(9, true)",
            "open(10, true)", "open(11, true)"}) {
            texts.add(run.answer(call));
        }
        // With no block taken and all faces open, each direction leads somewhere.
        for (int k = 0; k < blocks; k++) {
            ask(run, texts, "goes(" + k + ", %d)", directions);
            texts.add(run.answer("mode(" + k + ")"));
        }
        for (String call : new String[] {"direction(0, -1, -1)", "order()", "joint(0, 2, 0, 3)", "unjoint()", "unjoint()",
            "joint(0, 2, 0, 3)", "blocks()", "told(3)", "mode(0)", "order()", "taken(0, 1)", "direction(0, 0, 1)", "told(1)"}) {
            texts.add(run.answer(call));
        }
    }

    private static void ask(Run run, List<String> texts, String form, int count) {
        for (int i = 0; i < count; i++) {
            texts.add(run.answer(String.format(form, i)));
        }
    }
}
