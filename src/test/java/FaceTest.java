import java.lang.reflect.Constructor;
import java.lang.reflect.Field;
import java.lang.reflect.Member;
import java.lang.reflect.Method;
import java.lang.reflect.Modifier;
import java.util.Set;
import java.util.TreeSet;

/** The public face: the class, its constants, its constructor and its methods, and no more. */
public final class FaceTest {
    private static final String[] FACE = {
        "public SalonBook()",
        "public int SalonBook.hire(int,int,int) throws java.lang.IllegalArgumentException,java.lang.IllegalStateException",
        "public int SalonBook.addService(int,int) throws java.lang.IllegalArgumentException,java.lang.IllegalStateException",
        "public int SalonBook.addStep(int,int,int) throws java.lang.IndexOutOfBoundsException,java.lang.IllegalArgumentException,java.lang.IllegalStateException",
        "public int SalonBook.addUsual(int) throws java.lang.IllegalArgumentException,java.lang.IllegalStateException",
        "public int SalonBook.book(int,int) throws java.lang.IndexOutOfBoundsException,java.lang.IllegalStateException,java.util.NoSuchElementException",
        "public int SalonBook.bookWith(int,int,int) throws java.lang.IndexOutOfBoundsException,java.lang.IllegalStateException,java.util.NoSuchElementException",
        "public int SalonBook.move(int,int) throws java.lang.IndexOutOfBoundsException,java.util.NoSuchElementException",
        "public int SalonBook.drop(int) throws java.lang.IndexOutOfBoundsException",
        "public int SalonBook.request(int,int) throws java.lang.IndexOutOfBoundsException,java.lang.IllegalStateException",
        "public int SalonBook.requests()",
        "public int SalonBook.requestAt(int) throws java.lang.IndexOutOfBoundsException",
        "public int SalonBook.lengthOf(int) throws java.lang.IndexOutOfBoundsException",
        "public int SalonBook.workOf(int) throws java.lang.IndexOutOfBoundsException",
        "public int SalonBook.skillsOf(int) throws java.lang.IndexOutOfBoundsException",
        "public int SalonBook.visits()",
        "public int SalonBook.startOf(int) throws java.lang.IndexOutOfBoundsException",
        "public int SalonBook.staffOf(int) throws java.lang.IndexOutOfBoundsException",
        "public int SalonBook.chairOf(int) throws java.lang.IndexOutOfBoundsException",
        "public int SalonBook.serviceOf(int) throws java.lang.IndexOutOfBoundsException",
        "public int SalonBook.loadOf(int) throws java.lang.IndexOutOfBoundsException",
        "public int SalonBook.staffAt(int,int) throws java.lang.IndexOutOfBoundsException",
        "public int SalonBook.chairAt(int,int) throws java.lang.IndexOutOfBoundsException",
        "public int SalonBook.earliest(int,int) throws java.lang.IndexOutOfBoundsException",
        "public int SalonBook.earliestByScan(int,int) throws java.lang.IndexOutOfBoundsException",
        "public int SalonBook.staffFor(int,int) throws java.lang.IndexOutOfBoundsException",
        "public int SalonBook.inRest(int,int) throws java.lang.IndexOutOfBoundsException",
        "public int SalonBook.fill(int) throws java.lang.IllegalArgumentException",
        "public int SalonBook.peak()",
        "public static final int SalonBook.NONE = -1",
        "public static final int SalonBook.WASH = 0",
        "public static final int SalonBook.CUT = 1",
        "public static final int SalonBook.COLOUR = 2",
        "public static final int SalonBook.CARE = 3"};

    public static void main(String[] args) throws IllegalAccessException {
        Set<String> due = new TreeSet<>(Set.of(FACE));
        Set<String> got = face();
        Set<String> missing = new TreeSet<>(due);
        missing.removeAll(got);
        Set<String> surplus = new TreeSet<>(got);
        surplus.removeAll(due);
        missing.forEach(line -> System.out.println("missing: " + line));
        surplus.forEach(line -> System.out.println("too much: " + line));
        boolean open = Modifier.toString(SalonBook.class.getModifiers()).equals("public final");
        if (!open) {
            System.out.println("the class is not public final");
        }
        if (!open || !missing.isEmpty() || !surplus.isEmpty()) {
            System.exit(1);
        }
        System.out.println("the face is as due");
    }

    private static Set<String> face() throws IllegalAccessException {
        Set<String> face = new TreeSet<>();
        for (Constructor<?> constructor : SalonBook.class.getDeclaredConstructors()) {
            if (isSeen(constructor)) {
                face.add(constructor.toGenericString());
            }
        }
        for (Method method : SalonBook.class.getDeclaredMethods()) {
            if (isSeen(method)) {
                face.add(method.toGenericString());
            }
        }
        for (Field field : SalonBook.class.getDeclaredFields()) {
            if (isSeen(field)) {
                face.add(field.toGenericString() + " = " + field.getInt(null));
            }
        }
        return face;
    }

    private static boolean isSeen(Member member) {
        return !Modifier.isPrivate(member.getModifiers());
    }
}
