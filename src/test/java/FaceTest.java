import java.lang.reflect.Constructor;
import java.lang.reflect.Field;
import java.lang.reflect.Method;
import java.lang.reflect.Modifier;
import java.util.Set;
import java.util.TreeSet;

/** "The public face": the class has the document's constructor and methods, and nothing else can be seen of it. */
public final class FaceTest {
    private static final Check check = new Check();
    private static final Class<?> FACE = TransactionCores.class;
    private static final String BOUNDS = " throws java.lang.IndexOutOfBoundsException";
    private static final String[] METHODS = {
        "public void TransactionCores.code(int,int,int)" + BOUNDS,
        "public void TransactionCores.poke(int,int)",
        "public int TransactionCores.peek(int)",
        "public int TransactionCores.step(int)" + BOUNDS,
        "public int TransactionCores.run(int,int) throws java.lang.IllegalArgumentException",
        "public void TransactionCores.jump(int,int)" + BOUNDS + ",java.lang.IllegalStateException",
        "public int TransactionCores.register(int,int)" + BOUNDS,
        "public int TransactionCores.fate(int,int)" + BOUNDS,
        "public int TransactionCores.way(int,int,int,int)" + BOUNDS,
        "public int TransactionCores.memory(int)",
        "public int TransactionCores.requests()"};

    public static void main(String[] args) {
        check.sentence("public final class TransactionCores", FaceTest::theClass);
        check.sentence("public TransactionCores(int n, int sets, int ways)", FaceTest::theConstructor);
        check.sentence("The public face (its methods)", FaceTest::theMethods);
        check.sentence("The public face (no fields)", FaceTest::noFields);
        check.sentence("The public face (no method has a second one of its name)", FaceTest::namesAreTheFacesOwn);
        check.finish();
    }

    private static void theClass() {
        check.same("the class", Modifier.toString(FACE.getModifiers()), "public final");
        check.same("its package", FACE.getPackageName(), "");
        check.same("what it extends", FACE.getSuperclass().getName(), "java.lang.Object");
        check.same("what it implements", FACE.getInterfaces().length, 0);
        for (Class<?> inside : FACE.getDeclaredClasses()) {
            int seen = inside.getModifiers() & (Modifier.PUBLIC | Modifier.PROTECTED);
            check.same(inside.getName() + " is not seen", seen, 0);
        }
    }

    private static void theConstructor() {
        Set<String> seen = new TreeSet<>();
        for (Constructor<?> made : FACE.getDeclaredConstructors()) {
            if (isSeen(made.getModifiers())) {
                seen.add(made.toString());
            }
        }
        check.same("the constructors", seen.toString(), "[public TransactionCores(int,int,int)]");
    }

    private static void theMethods() {
        Set<String> seen = new TreeSet<>();
        for (Method method : FACE.getDeclaredMethods()) {
            if (isSeen(method.getModifiers())) {
                seen.add(method.toString());
            }
        }
        check.same("the methods", seen.toString(), new TreeSet<>(Set.of(METHODS)).toString());
    }

    private static void noFields() {
        check.same("fields that are seen", FACE.getFields().length, 0);
        for (Field field : FACE.getDeclaredFields()) {
            check.same(field + " is private", isSeen(field.getModifiers()) ? 1 : 0, 0);
        }
    }

    private static void namesAreTheFacesOwn() {
        Set<String> names = new TreeSet<>();
        for (Method method : FACE.getMethods()) {
            if (method.getDeclaringClass() == FACE) {
                check.same(method + " has its name alone", names.add(method.getName()) ? 1 : 0, 1);
            }
        }
        for (Method method : FACE.getDeclaredMethods()) {
            if (!isSeen(method.getModifiers())) {
                check.same(method + " has no name of the face", names.contains(method.getName()) ? 1 : 0, 0);
            }
        }
    }

    private static boolean isSeen(int modifiers) {
        return !Modifier.isPrivate(modifiers);
    }
}
