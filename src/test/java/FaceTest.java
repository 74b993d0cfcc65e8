import java.lang.reflect.Constructor;
import java.lang.reflect.Field;
import java.lang.reflect.Method;
import java.lang.reflect.Modifier;
import java.util.Arrays;
import java.util.stream.Collectors;
import java.util.stream.Stream;

/** "The public face", promises 1 to 34: every call that it names, as it names it, and no other. */
public final class FaceTest {
    private static final String FILE = "IndexOutOfBoundsException";
    private static final String ARGUMENT = "IllegalArgumentException";
    private static final String STATE = "IllegalStateException";

    public static void main(String[] args) {
        theClass();
        promise1();
        promises2To16();
        promises17To21();
        promises22To26();
        promises27To29();
        promises30To34();
        nothingElse();
        Check.end("FaceTest");
    }

    private static void theClass() {
        int modifiers = MoraineSort.class.getModifiers();
        Check.due("face: the class is public", true, () -> Modifier.isPublic(modifiers));
        Check.due("face: the class is final", true, () -> Modifier.isFinal(modifiers));
        Check.due("face: it has no package", "", () -> MoraineSort.class.getPackageName());
        Check.due("face: it is a class of its own", "Object 0",
                () -> MoraineSort.class.getSuperclass().getSimpleName() + " "
                        + MoraineSort.class.getInterfaces().length);
    }

    private static void promise1() {
        Constructor<?>[] all = MoraineSort.class.getDeclaredConstructors();
        Check.due("1 one constructor", 1, () -> all.length);
        Check.due("1 it is public", true, () -> Modifier.isPublic(all[0].getModifiers()));
        Check.due("1 it asks for nothing, and throws nothing", "0 0",
                () -> all[0].getParameterCount() + " " + all[0].getExceptionTypes().length);
    }

    private static void promises2To16() {
        call(2, "int setMemory(int, int)", ARGUMENT);
        call(3, "int addFile()", STATE);
        call(4, "int put(int, int, int)", FILE, ARGUMENT, STATE);
        call(5, "int putRow(int, int, int, int, int)", FILE, ARGUMENT, STATE);
        call(6, "int drop()", STATE);
        call(7, "int files()");
        call(8, "int size(int)", FILE);
        call(9, "int at(int, int, boolean)", FILE);
        call(10, "int pages(int)", FILE);
        call(11, "int order(int)", FILE);
        call(12, "int distinct(int)", FILE);
        call(13, "int inversions(int)", FILE);
        call(14, "int read()");
        call(15, "int written()");
        call(16, "int spilt()");
    }

    private static void promises17To21() {
        call(17, "int sort(int, boolean, boolean, boolean)", FILE, STATE);
        call(18, "int runs()");
        call(19, "int runSize(int)", FILE);
        call(20, "int merges()");
        call(21, "int merge(int, int)", FILE, ARGUMENT);
    }

    private static void promises22To26() {
        call(22, "int begin(int, int)", FILE, ARGUMENT, STATE);
        call(23, "int next()", STATE);
        call(24, "int winner()", STATE);
        call(25, "int loser(int)", STATE, FILE);
        call(26, "int matches()");
    }

    private static void promises27To29() {
        call(27, "int join(int, int, int)", FILE, ARGUMENT, STATE);
        call(28, "int split(int, int)", FILE, STATE);
        call(29, "int group(int, int)", FILE, ARGUMENT, STATE);
    }

    private static void promises30To34() {
        call(30, "int sortCost(int, boolean, boolean, int)", FILE, ARGUMENT);
        call(31, "int memoryFor(int, boolean, int)", FILE, ARGUMENT);
        call(32, "int splitCost(int, int)", FILE);
        call(33, "double share(int, int)", FILE);
        call(34, "long digest()");
    }

    private static void nothingElse() {
        Check.due("face: 33 methods and no other", 33L, () -> methods().count());
        Check.due("face: all else is private", "", () -> membersThatShow());
        for (Class<?> inside : MoraineSort.class.getDeclaredClasses()) {
            int modifiers = inside.getModifiers();
            Check.due("face: " + inside.getSimpleName() + " does not show", false,
                    () -> Modifier.isPublic(modifiers) || Modifier.isProtected(modifiers));
        }
    }

    /** The document's face has this call. */
    private static void call(int promise, String call, String... exceptions) {
        String want = call + " throws " + String.join(", ", exceptions);
        String name = call.substring(call.indexOf(' ') + 1, call.indexOf('('));
        Check.due(promise + " " + name, want, () -> methods()
                .filter(method -> method.getName().equals(name)).map(FaceTest::told)
                .collect(Collectors.joining(" and ")));
    }

    private static Stream<Method> methods() {
        return Arrays.stream(MoraineSort.class.getDeclaredMethods())
                .filter(method -> Modifier.isPublic(method.getModifiers()));
    }

    private static String told(Method method) {
        String what = Modifier.isStatic(method.getModifiers()) ? "static " : "";
        return what + method.getReturnType() + " " + method.getName() + "("
                + names(method.getParameterTypes()) + ") throws "
                + names(method.getExceptionTypes());
    }

    private static String names(Class<?>[] types) {
        return Arrays.stream(types).map(Class::getSimpleName).collect(Collectors.joining(", "));
    }

    private static String membersThatShow() {
        StringBuilder all = new StringBuilder();
        for (Field field : MoraineSort.class.getDeclaredFields()) {
            if (!Modifier.isPrivate(field.getModifiers()) && !field.isSynthetic()) {
                all.append(field.getName()).append(' ');
            }
        }
        for (Method method : MoraineSort.class.getDeclaredMethods()) {
            int modifiers = method.getModifiers();
            if (!Modifier.isPublic(modifiers) && !Modifier.isPrivate(modifiers)
                    && !method.isSynthetic()) {
                all.append(method.getName()).append(' ');
            }
        }
        return all.toString();
    }
}
