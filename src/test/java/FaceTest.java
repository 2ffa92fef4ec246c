import java.io.IOException;
import java.lang.reflect.Constructor;
import java.lang.reflect.Field;
import java.lang.reflect.Method;
import java.lang.reflect.Modifier;
import java.nio.file.Files;
import java.nio.file.Path;
import java.util.Arrays;
import java.util.List;
import java.util.Set;
import java.util.TreeSet;

/** The public face, the room that calls take, and rules of LANGUAGE.md that can be read off the file. */
public final class FaceTest {
    private static final List<String> FACE = List.of(
            "int NONE",
            "(int,int,int)",
            "int joint(int,int,int,int) throws IllegalArgumentException,IllegalStateException",
            "int unjoint()",
            "boolean open(int,boolean) throws IndexOutOfBoundsException",
            "int direction(int,int,int) throws IllegalArgumentException,IllegalStateException",
            "void pull(int,int,int) throws IllegalArgumentException",
            "int blocks()",
            "int block(int,int) throws IndexOutOfBoundsException",
            "int corner(int,int,int) throws IndexOutOfBoundsException",
            "int find(int)",
            "int beside(int,int) throws IndexOutOfBoundsException",
            "boolean goes(int,int) throws IndexOutOfBoundsException",
            "int take(int) throws IndexOutOfBoundsException",
            "int order()",
            "int taken(int,int) throws IndexOutOfBoundsException",
            "int back()",
            "int mode(int) throws IndexOutOfBoundsException",
            "int told(int) throws IndexOutOfBoundsException");

    private static int wrong = 0;

    public static void main(String[] args) throws IOException {
        checkFace();
        checkNames();
        checkText(Files.readString(Path.of("src/main/java/WedgePlanes.java")));
        checkRoom();
        System.out.println(wrong == 0 ? "the face is as due" : wrong + " things are not as due");
        if (wrong != 0) {
            System.exit(1);
        }
    }

    private static void need(boolean holds, String what) {
        if (!holds) {
            wrong++;
            System.out.println("not so: " + what);
        }
    }

    private static String list(Class<?>[] types) {
        return String.join(",", Arrays.stream(types).map(Class::getSimpleName).toList());
    }

    private static void checkFace() {
        Class<WedgePlanes> type = WedgePlanes.class;
        Set<String> seen = new TreeSet<>();
        for (Field f : type.getDeclaredFields()) {
            if (!Modifier.isPrivate(f.getModifiers())) {
                need(Modifier.isPublic(f.getModifiers()) && Modifier.isStatic(f.getModifiers())
                        && Modifier.isFinal(f.getModifiers()), f + " is a public constant");
                seen.add(f.getType().getSimpleName() + " " + f.getName());
            }
        }
        for (Constructor<?> c : type.getDeclaredConstructors()) {
            need(Modifier.isPublic(c.getModifiers()) && c.getExceptionTypes().length == 0, c + " is public");
            seen.add("(" + list(c.getParameterTypes()) + ")");
        }
        for (Method m : type.getDeclaredMethods()) {
            if (!Modifier.isPrivate(m.getModifiers())) {
                need(Modifier.isPublic(m.getModifiers()) && !Modifier.isStatic(m.getModifiers()), m + " is public");
                String thrown = list(m.getExceptionTypes());
                seen.add(m.getReturnType().getSimpleName() + " " + m.getName() + "(" + list(m.getParameterTypes()) + ")"
                        + (thrown.isEmpty() ? "" : " throws " + thrown));
            }
        }
        need(seen.equals(new TreeSet<>(FACE)), "the face is the document's: " + seen);
        need(Modifier.isFinal(type.getModifiers()) && Modifier.isPublic(type.getModifiers()), "the class is public and final");
    }

    private static void checkNames() {
        Set<String> publicNames = new TreeSet<>();
        for (Method m : WedgePlanes.class.getMethods()) {
            publicNames.add(m.getName());
        }
        for (Method m : WedgePlanes.class.getDeclaredMethods()) {
            need(Modifier.isPublic(m.getModifiers()) || !publicNames.contains(m.getName()), m + " has a name of its own");
        }
        need(WedgePlanes.class.getDeclaredClasses().length <= 12, "at most twelve classes");
        for (Class<?> inside : WedgePlanes.class.getDeclaredClasses()) {
            need(Modifier.isStatic(inside.getModifiers()) && !Modifier.isPublic(inside.getModifiers()), inside + " is static");
            need(inside.getDeclaredFields().length <= 20, inside + " has at most twenty fields");
        }
    }

    private static void checkText(String text) {
        for (String refused : new String[] {"->", "::", "catch", "finally", "import ", "package ", "synchronized", "assert ",
            "Exact(", "double ", "float ", "System."}) {
            need(!text.contains(refused), "the file has no " + refused);
        }
    }

    /** All calls of a run share one room, so calls that answer must make nothing. */
    private static void checkRoom() {
        com.sun.management.ThreadMXBean meter =
                (com.sun.management.ThreadMXBean) java.lang.management.ManagementFactory.getThreadMXBean();
        WedgePlanes rock = new WedgePlanes(7, 6, 5);
        // The first use loads what the Java machine needs, so it is made on another object.
        useAll(new WedgePlanes(7, 6, 5));
        long before = meter.getCurrentThreadAllocatedBytes();
        long sum = useAll(rock);
        long made = meter.getCurrentThreadAllocatedBytes() - before;
        need(sum != 0 && made < 1000, "calls make no objects: " + made + " bytes");
    }

    private static long useAll(WedgePlanes rock) {
        long sum = rock.joint(3, -2, 1, 4) + rock.joint(1, 4, -2, 7) + rock.joint(-1, 1, 5, 9)
                + rock.joint(2, 2, 3, 14) + rock.joint(5, -6, 1, -2) + rock.joint(1, 1, -4, -3);
        sum += rock.direction(0, 0, -1);
        rock.open(10, true);
        rock.pull(1, 2, -9);
        for (int k = 0; k < rock.blocks(); k++) {
            sum += rock.block(k, 3) + rock.corner(k, 3, 0) + rock.beside(k, 0) + rock.mode(k) + rock.find(k);
            sum += rock.goes(k, 0) ? 1 : 0;
        }
        sum += rock.order() + rock.taken(0, 0) + rock.back() + rock.told(3);
        for (int j = 0; j < 6; j++) {
            sum += rock.unjoint();
        }
        return sum;
    }
}
