import java.io.IOException;
import java.lang.reflect.Constructor;
import java.lang.reflect.Field;
import java.lang.reflect.Method;
import java.lang.reflect.Modifier;
import java.nio.file.Files;
import java.nio.file.Path;
import java.util.Arrays;
import java.util.Set;
import java.util.TreeSet;
import java.util.stream.Collectors;

/** The class shows what the document's face has, and nothing else. */
public final class FaceTest {
    private static final Path DOCUMENT = Path.of("../shared/DOC.md");

    private static final String FACE = """
        public final class DomainKeys {
            public static final int NO_ORDER = -1;
            public static final int NO_FIELD = -2;
            public DomainKeys();
            public int generate(long seed);
            public long candidate(int what);
            public int generator(int index) throws IllegalStateException, IllegalArgumentException;
            public boolean valid(int p, int q, long seed, int counter);
            public void adopt(int p, int q, int g) throws IllegalArgumentException;
            public int domain(int what);
            public int key(int slot, int x) throws IllegalStateException, IndexOutOfBoundsException, IllegalArgumentException;
            public int publicNumber(int slot) throws java.util.NoSuchElementException;
            public void forget(int slot) throws java.util.NoSuchElementException;
            public boolean fits(int y) throws IllegalStateException;
            public int digest(long message);
            public long sign(int slot, long message, int k) throws java.util.NoSuchElementException, IllegalArgumentException, ArithmeticException;
            public boolean verify(int y, long message, int r, int s) throws IllegalStateException;
            public int agree(int slot, int peer) throws java.util.NoSuchElementException, IllegalArgumentException, ArithmeticException;
        }
        """;

    public static void main(String[] args) throws IOException, IllegalAccessException {
        Check check = new Check();
        documentHasThisFace(check);
        classHasThisFace(check);
        classItself(check);
        classesInside(check);
        constants(check);
        noPrivateNamesake(check);
        check.end();
    }

    private static void documentHasThisFace(Check check) throws IOException {
        boolean same = Files.readString(DOCUMENT).contains("```java\n" + FACE + "```");
        check.due("the document has the face of this test", () -> same, true);
    }

    private static void classHasThisFace(Check check) throws IllegalAccessException {
        Set<String> shown = new TreeSet<>();
        for (Field field : DomainKeys.class.getDeclaredFields()) {
            if (!Modifier.isPrivate(field.getModifiers())) {
                shown.add(line(field));
            }
        }
        for (Constructor<?> constructor : DomainKeys.class.getDeclaredConstructors()) {
            if (!Modifier.isPrivate(constructor.getModifiers())) {
                shown.add(constructor + ";");
            }
        }
        for (Method method : DomainKeys.class.getDeclaredMethods()) {
            if (!Modifier.isPrivate(method.getModifiers())) {
                shown.add(line(method));
            }
        }
        Set<String> due = FACE.lines().map(String::strip).filter(row -> row.endsWith(";"))
            .map(FaceTest::withoutParameterNames).collect(Collectors.toCollection(TreeSet::new));
        check.due("the number of members in the face", due::size, 17);
        for (String row : due) {
            check.due("the class has " + row, () -> shown.contains(row), true);
        }
        shown.removeAll(due);
        check.due("members beside the face", () -> shown, "[]");
    }

    private static String withoutParameterNames(String row) {
        return row.replaceAll("\\b(int|long) \\w+(?=[,)])", "$1");
    }

    private static String line(Field field) throws IllegalAccessException {
        String value = Modifier.isStatic(field.getModifiers()) ? " = " + field.get(null) : "";
        return Modifier.toString(field.getModifiers()) + " " + field.getType() + " " + field.getName() + value + ";";
    }

    private static String line(Method method) {
        String thrown = names(method.getExceptionTypes());
        return Modifier.toString(method.getModifiers()) + " " + method.getReturnType() + " " + method.getName()
            + "(" + names(method.getParameterTypes()) + ")" + (thrown.isEmpty() ? "" : " throws " + thrown) + ";";
    }

    private static String names(Class<?>[] types) {
        return Arrays.stream(types).map(type -> type.getName().replace("java.lang.", ""))
            .collect(Collectors.joining(", "));
    }

    private static void classItself(Check check) {
        check.due("modifiers", () -> Modifier.toString(DomainKeys.class.getModifiers()), "public final");
        check.due("package", () -> DomainKeys.class.getPackageName(), "");
        check.due("superclass", DomainKeys.class::getSuperclass, Object.class);
        check.due("interfaces", () -> DomainKeys.class.getInterfaces().length, 0);
    }

    private static void classesInside(Check check) {
        for (Class<?> inside : DomainKeys.class.getDeclaredClasses()) {
            int modifiers = inside.getModifiers();
            boolean hidden = !Modifier.isPublic(modifiers) && !Modifier.isProtected(modifiers);
            check.due(inside + " is hidden and static", () -> hidden && Modifier.isStatic(modifiers), true);
        }
    }

    private static void constants(Check check) {
        check.due("NO_ORDER", () -> DomainKeys.NO_ORDER, -1);
        check.due("NO_FIELD", () -> DomainKeys.NO_FIELD, -2);
    }

    private static void noPrivateNamesake(Check check) {
        Set<String> hidden = new TreeSet<>();
        Set<String> shown = new TreeSet<>();
        for (Method method : DomainKeys.class.getDeclaredMethods()) {
            (Modifier.isPrivate(method.getModifiers()) ? hidden : shown).add(method.getName());
        }
        hidden.retainAll(shown);
        check.due("private methods with the name of a public one", () -> hidden, "[]");
    }
}
