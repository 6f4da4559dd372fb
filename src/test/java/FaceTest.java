import java.lang.reflect.Constructor;
import java.lang.reflect.Field;
import java.lang.reflect.Method;
import java.lang.reflect.Modifier;
import java.util.Arrays;
import java.util.HashSet;
import java.util.Set;
import java.util.TreeSet;

/** The class has the document's face and no more, as rule 1 and rule 5 of LANGUAGE.md want it. */
public final class FaceTest {
    private static final String METHODS = """
            double abortShare() ArithmeticException
            float divide(int int int) IndexOutOfBoundsException IllegalStateException ArithmeticException NoSuchElementException
            boolean commit(int) IndexOutOfBoundsException IllegalStateException
            int abort(int) IndexOutOfBoundsException IllegalStateException
            int add(int int int) IndexOutOfBoundsException IllegalStateException UnsupportedOperationException
            int append(char) IllegalArgumentException IllegalStateException
            int begin(int) IllegalArgumentException IllegalStateException
            int cascade(int) IndexOutOfBoundsException
            int check()
            int cloneRow(int int) IndexOutOfBoundsException IllegalStateException
            int collect()
            int copyRow(int int) IndexOutOfBoundsException IllegalStateException IllegalArgumentException NoSuchElementException
            int dependencies(int) IndexOutOfBoundsException
            int errorPosition() NoSuchElementException
            int event(int int) IndexOutOfBoundsException
            int eventCount()
            int export(int int) IndexOutOfBoundsException IllegalStateException
            int horizon()
            int operation(int int int) IndexOutOfBoundsException IllegalArgumentException
            int read(int int) IndexOutOfBoundsException IllegalStateException UnsupportedOperationException
            int reset(int) IllegalArgumentException
            int restartNext() NoSuchElementException
            int restore() IllegalStateException
            int run(int) IndexOutOfBoundsException IllegalStateException IllegalArgumentException UnsupportedOperationException
            int snapshot()
            int total(int) IllegalArgumentException
            int transaction(int int) IndexOutOfBoundsException IllegalArgumentException
            int transactionCount()
            int valueAt(int int) IndexOutOfBoundsException NoSuchElementException
            int version(int int int) IndexOutOfBoundsException IllegalArgumentException
            int versionCount(int) IndexOutOfBoundsException
            int write(int int int) IndexOutOfBoundsException IllegalStateException UnsupportedOperationException
            void allocate(int int int) IndexOutOfBoundsException IllegalArgumentException
            """;

    public static void main(String[] args) {
        Class<?> face = TimestampScheduler.class;
        Script.expect("public and final", face.getModifiers() == (Modifier.PUBLIC | Modifier.FINAL));
        Script.expect("the public methods", publicMethods(face).equals(new TreeSet<>(Arrays.asList(METHODS.split("\n")))));
        Constructor<?>[] constructors = face.getDeclaredConstructors();
        Script.expect("one constructor", constructors.length == 1 && Modifier.isPublic(constructors[0].getModifiers()));
        for (Field field : face.getDeclaredFields()) {
            boolean isPublic = field.getName().equals("ABORTED");
            Script.expect(field + " is private", isPublic != Modifier.isPrivate(field.getModifiers()));
        }
        noNameTwice(face);
        for (Class<?> inner : face.getDeclaredClasses()) {
            Script.expect(inner + " is static", Modifier.isStatic(inner.getModifiers()) && !Modifier.isPublic(inner.getModifiers()));
            staticFieldsAreFinal(inner);
            Script.expect(inner + " has few fields", inner.getDeclaredFields().length <= 20);
        }
        staticFieldsAreFinal(face);
        Script.end();
    }

    private static Set<String> publicMethods(Class<?> face) {
        Set<String> found = new TreeSet<>();
        for (Method method : face.getDeclaredMethods()) {
            if (!Modifier.isPrivate(method.getModifiers())) {
                found.add((method.getReturnType() + " " + method.getName() + names(method.getParameterTypes(), "(", ")")
                        + names(method.getExceptionTypes(), " ", "")).stripTrailing());
            }
        }
        return found;
    }

    private static String names(Class<?>[] types, String before, String behind) {
        return before + String.join(" ", Arrays.stream(types).map(Class::getSimpleName).toList()) + behind;
    }

    private static void noNameTwice(Class<?> face) {
        Set<String> names = new HashSet<>();
        for (Method method : face.getDeclaredMethods()) {
            Script.expect(method + " has a name of its own", names.add(method.getName()));
        }
    }

    private static void staticFieldsAreFinal(Class<?> type) {
        for (Field field : type.getDeclaredFields()) {
            boolean isStatic = Modifier.isStatic(field.getModifiers());
            Script.expect(field + " is final", !isStatic || Modifier.isFinal(field.getModifiers()));
        }
    }
}
