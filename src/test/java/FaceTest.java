import java.lang.management.ManagementFactory;
import java.lang.reflect.Constructor;
import java.lang.reflect.Field;
import java.lang.reflect.Method;
import java.lang.reflect.Modifier;
import java.util.Set;
import java.util.TreeSet;

/** The class has the document's face and nothing else that can be seen, and its calls need no room of their own. */
public final class FaceTest {
    private static final String[] FACE = {
        "public static final int NONE",
        "public SquaringClock()",
        "public void discriminant(int) throws IllegalArgumentException,IllegalStateException",
        "public int begin(int) throws IllegalStateException,IllegalArgumentException",
        "public int work(int) throws IllegalStateException,IllegalArgumentException",
        "public int prove(int) throws IllegalStateException,IllegalArgumentException",
        "public int publish() throws IllegalStateException",
        "public boolean drop()",
        "public int rounds()",
        "public int told(int,int) throws IllegalStateException,IndexOutOfBoundsException",
        "public int form(int,int,int) throws IllegalStateException,IndexOutOfBoundsException",
        "public boolean verify(int) throws IllegalStateException,IndexOutOfBoundsException",
        "public void put(int,int,int) throws IllegalStateException,IndexOutOfBoundsException,IllegalArgumentException",
        "public long buffer(int,int) throws IllegalStateException,IndexOutOfBoundsException,NoSuchElementException",
        "public void reduce(int,int) throws IllegalStateException,IndexOutOfBoundsException,NoSuchElementException",
        "public void multiply(int,int,int) throws IllegalStateException,IndexOutOfBoundsException,NoSuchElementException",
        "public void raise(int,int,int) throws IllegalStateException,IndexOutOfBoundsException,"
            + "IllegalArgumentException,NoSuchElementException",
        "public int test(int) throws IllegalStateException,IndexOutOfBoundsException,NoSuchElementException",
        "public int order(int) throws IllegalStateException,IllegalArgumentException",
        "public int classes() throws IllegalStateException,IllegalArgumentException",
    };
    /** Bytes: no more than the JVM itself makes beside the calls. */
    private static final long MOST_ROOM = 20000;

    public static void main(String[] args) {
        boolean good = Modifier.isFinal(SquaringClock.class.getModifiers()) && hasFace() && hidesNames() && needsNoRoom();
        System.out.println(good ? "the face is as due" : "the face is not as due");
        if (!good) {
            System.exit(1);
        }
    }

    private static boolean hasFace() {
        Set<String> due = new TreeSet<>(Set.of(FACE));
        Set<String> found = new TreeSet<>();
        for (Field field : SquaringClock.class.getDeclaredFields()) {
            note(found, field.getModifiers(), field.toString());
        }
        for (Constructor<?> constructor : SquaringClock.class.getDeclaredConstructors()) {
            note(found, constructor.getModifiers(), constructor.toString());
        }
        for (Method method : SquaringClock.class.getDeclaredMethods()) {
            note(found, method.getModifiers(), method.toString());
        }
        if (!found.equals(due)) {
            System.out.println("found " + found + "\ndue " + due);
        }
        return found.equals(due);
    }

    private static void note(Set<String> found, int modifiers, String text) {
        if (!Modifier.isPrivate(modifiers)) {
            found.add(text.replace("SquaringClock.", "").replace("java.lang.", "").replace("java.util.", ""));
        }
    }

    private static boolean hidesNames() {
        Set<String> seen = new TreeSet<>();
        for (Method method : SquaringClock.class.getDeclaredMethods()) {
            if (!Modifier.isPrivate(method.getModifiers())) {
                seen.add(method.getName());
            }
        }
        for (Method method : SquaringClock.class.getDeclaredMethods()) {
            if (Modifier.isPrivate(method.getModifiers()) && seen.contains(method.getName())) {
                System.out.println("a private method bears the public name " + method.getName());
                return false;
            }
        }
        return true;
    }

    private static boolean needsNoRoom() {
        SquaringClock clock = new SquaringClock();
        com.sun.management.ThreadMXBean threads =
            (com.sun.management.ThreadMXBean) ManagementFactory.getThreadMXBean();
        threads.getCurrentThreadAllocatedBytes();
        long before = threads.getCurrentThreadAllocatedBytes();
        int answers = dearRun(clock);
        long room = threads.getCurrentThreadAllocatedBytes() - before;
        if (room > MOST_ROOM || answers == 0) {
            System.out.println("a run of dear calls took " + room + " bytes");
            return false;
        }
        return true;
    }

    private static int dearRun(SquaringClock clock) {
        int answers = 0;
        clock.discriminant(49999);
        for (int i = 0; i < 16; i++) {
            answers += clock.begin(500) + clock.work(500) + clock.prove(500) + clock.publish();
            for (int which = 0; which < 3; which++) {
                clock.put(which, clock.form(i, which, 0), clock.form(i, which, 1));
            }
            answers += clock.test(i) + clock.order(1000) + clock.classes();
            answers += clock.verify(i) ? 1 : 0;
            clock.multiply(0, 1, 2);
            clock.raise(2, Integer.MAX_VALUE, 2);
            clock.reduce(2, 2);
        }
        return answers;
    }
}
