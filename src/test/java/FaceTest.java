import java.lang.reflect.Constructor;
import java.lang.reflect.Field;
import java.lang.reflect.Method;
import java.lang.reflect.Modifier;
import java.util.Arrays;
import java.util.List;
import java.util.TreeSet;

/** The class shows what the document's face has, and nothing else. */
public final class FaceTest {
    private static final List<String> METHODS = List.of(
        "public boolean DomainKeys.fits(int) throws java.lang.IllegalStateException",
        "public boolean DomainKeys.valid(int,int,long,int)",
        "public boolean DomainKeys.verify(int,long,int,int) throws java.lang.IllegalStateException",
        "public int DomainKeys.agree(int,int) throws java.util.NoSuchElementException,"
            + "java.lang.IllegalArgumentException,java.lang.ArithmeticException",
        "public int DomainKeys.digest(long)",
        "public int DomainKeys.domain(int)",
        "public int DomainKeys.generate(long)",
        "public int DomainKeys.generator(int) throws java.lang.IllegalStateException,"
            + "java.lang.IllegalArgumentException",
        "public int DomainKeys.key(int,int) throws java.lang.IllegalStateException,"
            + "java.lang.IndexOutOfBoundsException,java.lang.IllegalArgumentException",
        "public int DomainKeys.publicNumber(int) throws java.util.NoSuchElementException",
        "public long DomainKeys.candidate(int)",
        "public long DomainKeys.sign(int,long,int) throws java.util.NoSuchElementException,"
            + "java.lang.IllegalArgumentException,java.lang.ArithmeticException",
        "public void DomainKeys.adopt(int,int,int) throws java.lang.IllegalArgumentException",
        "public void DomainKeys.forget(int) throws java.util.NoSuchElementException");

    private static final List<String> FIELDS = List.of(
        "public static final int DomainKeys.NO_FIELD",
        "public static final int DomainKeys.NO_ORDER");

    public static void main(String[] args) {
        Check check = new Check();
        TreeSet<String> methods = new TreeSet<>();
        TreeSet<String> privateNames = new TreeSet<>();
        for (Method method : DomainKeys.class.getDeclaredMethods()) {
            if (Modifier.isPrivate(method.getModifiers())) {
                privateNames.add(method.getName());
            } else {
                methods.add(method.toString());
            }
        }
        TreeSet<String> fields = new TreeSet<>();
        for (Field field : DomainKeys.class.getDeclaredFields()) {
            if (!Modifier.isPrivate(field.getModifiers())) {
                fields.add(field.toString());
            }
        }
        Constructor<?>[] constructors = DomainKeys.class.getDeclaredConstructors();
        check.due("methods", () -> methods, new TreeSet<>(METHODS));
        check.due("fields", () -> fields, new TreeSet<>(FIELDS));
        check.due("constructors", () -> Arrays.toString(constructors), "[public DomainKeys()]");
        check.due("modifiers", () -> Modifier.toString(DomainKeys.class.getModifiers()), "public final");
        for (Method method : DomainKeys.class.getDeclaredMethods()) {
            boolean shadowed = Modifier.isPublic(method.getModifiers())
                && privateNames.contains(method.getName());
            check.due("a private method named " + method.getName(), () -> shadowed, false);
        }
        check.due("NO_ORDER", () -> DomainKeys.NO_ORDER, -1);
        check.due("NO_FIELD", () -> DomainKeys.NO_FIELD, -2);
        check.end();
    }
}
