import java.lang.reflect.Constructor;
import java.lang.reflect.Field;
import java.lang.reflect.Method;
import java.lang.reflect.Modifier;
import java.util.Set;
import java.util.TreeSet;

/** The class has the document's face and nothing else that can be seen. */
public final class FaceTest {
    private static final String[] FACE = {
        "public static final int NONE",
        "public SquaringClock()",
        "public void discriminant(int) throws IllegalArgumentException,IllegalStateException",
        "public int begin(int) throws IllegalStateException,IllegalArgumentException",
        "public int work(int) throws IllegalStateException,IllegalArgumentException",
        "public int prove(int) throws IllegalStateException,IllegalArgumentException",
        "public int publish() throws IllegalStateException",
        "public boolean drop()",
        "public int rounds()",
        "public int told(int,int) throws IllegalStateException,IndexOutOfBoundsException",
        "public int form(int,int,int) throws IllegalStateException,IndexOutOfBoundsException",
        "public boolean verify(int) throws IllegalStateException,IndexOutOfBoundsException",
        "public void put(int,int,int) throws IllegalStateException,IndexOutOfBoundsException,IllegalArgumentException",
        "public long buffer(int,int) throws IllegalStateException,IndexOutOfBoundsException,NoSuchElementException",
        "public void reduce(int,int) throws IllegalStateException,IndexOutOfBoundsException,NoSuchElementException",
        "public void multiply(int,int,int) throws IllegalStateException,IndexOutOfBoundsException,NoSuchElementException",
        "public void raise(int,int,int) throws IllegalStateException,IndexOutOfBoundsException,"
            + "IllegalArgumentException,NoSuchElementException",
        "public int test(int) throws IllegalStateException,IndexOutOfBoundsException,NoSuchElementException",
        "public int order(int) throws IllegalStateException,IllegalArgumentException",
        "public int classes() throws IllegalStateException,IllegalArgumentException",
    };

    public static void main(String[] args) {
        boolean good = isPlainClass() && hasFace() && hidesNames() && hidesClasses();
        System.out.println(good ? "the face is as due" : "the face is not as due");
        if (!good) {
            System.exit(1);
        }
    }

    private static boolean isPlainClass() {
        Class<?> face = SquaringClock.class;
        boolean plain = face.getModifiers() == (Modifier.PUBLIC | Modifier.FINAL) && face.getSuperclass() == Object.class
            && face.getInterfaces().length == 0 && SquaringClock.NONE == -1;
        if (!plain) {
            System.out.println("the class itself, or its constant, is not as due");
        }
        return plain;
    }

    private static boolean hidesClasses() {
        for (Class<?> inside : SquaringClock.class.getDeclaredClasses()) {
            int modifiers = inside.getModifiers();
            if (Modifier.isPublic(modifiers) || Modifier.isProtected(modifiers) || !Modifier.isStatic(modifiers)) {
                System.out.println("a class inside is seen, or not static: " + inside);
                return false;
            }
        }
        return true;
    }

    private static boolean hasFace() {
        Set<String> due = new TreeSet<>(Set.of(FACE));
        Set<String> found = new TreeSet<>();
        for (Field field : SquaringClock.class.getDeclaredFields()) {
            note(found, field.getModifiers(), field.toString());
        }
        for (Constructor<?> constructor : SquaringClock.class.getDeclaredConstructors()) {
            note(found, constructor.getModifiers(), constructor.toString());
        }
        for (Method method : SquaringClock.class.getDeclaredMethods()) {
            note(found, method.getModifiers(), method.toString());
        }
        if (!found.equals(due)) {
            System.out.println("found " + found + "\ndue " + due);
        }
        return found.equals(due);
    }

    private static void note(Set<String> found, int modifiers, String text) {
        if (!Modifier.isPrivate(modifiers)) {
            found.add(text.replace("SquaringClock.", "").replace("java.lang.", "").replace("java.util.", ""));
        }
    }

    private static boolean hidesNames() {
        Set<String> seen = new TreeSet<>();
        for (Method method : SquaringClock.class.getDeclaredMethods()) {
            if (!Modifier.isPrivate(method.getModifiers())) {
                seen.add(method.getName());
            }
        }
        for (Method method : SquaringClock.class.getDeclaredMethods()) {
            if (Modifier.isPrivate(method.getModifiers()) && seen.contains(method.getName())) {
                System.out.println("a private method bears the public name " + method.getName());
                return false;
            }
        }
        return true;
    }
}
