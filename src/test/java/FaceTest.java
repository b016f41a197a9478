import java.lang.reflect.Constructor;
import java.lang.reflect.Field;
import java.lang.reflect.Method;
import java.lang.reflect.Modifier;
import java.util.Arrays;
import java.util.HashSet;
import java.util.List;
import java.util.Set;
import java.util.TreeSet;

/** The class has the face of the document, and nothing else that can be seen from outside. */
public final class FaceTest {
    private static final List<String> FACE = List.of(
            "public int NONE = -1", "public int SPLIT = 0", "public int NARROW = 1",
            "public int SCALE = 2", "public int IDLE = 0", "public int COPYING = 1",
            "public int CUT = 2",
            "public TableChanger() throws []",
            "public void insert(int, int, int) throws [IndexOutOfBoundsException, "
                    + "IllegalArgumentException, IllegalStateException]",
            "public void update(int, int, int) throws [IndexOutOfBoundsException, "
                    + "IllegalArgumentException, NoSuchElementException]",
            "public int delete(int) throws [IndexOutOfBoundsException, NoSuchElementException]",
            "public void rekey(int, int) throws [IndexOutOfBoundsException, "
                    + "IllegalArgumentException, NoSuchElementException, IllegalStateException]",
            "public void start(int, int) throws [IllegalArgumentException, IllegalStateException]",
            "public void setPace(int, int) throws [IllegalArgumentException]",
            "public int tick(int) throws [IllegalArgumentException, IllegalStateException]",
            "public int cutOver(int) throws [IllegalArgumentException, IllegalStateException]",
            "public void undo() throws [IllegalStateException]",
            "public int finish() throws [IllegalStateException]",
            "public int giveUp() throws [IllegalStateException]",
            "public int row(int) throws [IndexOutOfBoundsException]",
            "public int rows() throws []",
            "public int phase() throws []",
            "public int mark() throws []",
            "public int notes() throws []",
            "public int shadow(int, int) throws [IndexOutOfBoundsException]",
            "public int shadowRows() throws []",
            "public boolean isRefused(int) throws [IndexOutOfBoundsException]",
            "public int behind() throws []",
            "public int sum(int) throws [IndexOutOfBoundsException]",
            "public int sumAtOnce(int) throws [IndexOutOfBoundsException]");

    private FaceTest() {
    }

    public static void main(String[] args) throws IllegalAccessException {
        Checks checks = new Checks("FaceTest");
        checks.due("the face", new TreeSet<>(seen()).toString(), new TreeSet<>(FACE).toString());
        checks.due("public and final",
                TableChanger.class.getModifiers(), Modifier.PUBLIC | Modifier.FINAL);
        checks.due("private methods with the name of a public one",
                privateNamesThatArePublic().toString(), "[]");
        checks.end();
    }

    private static Set<String> seen() throws IllegalAccessException {
        Set<String> members = new HashSet<>();
        for (Field field : TableChanger.class.getDeclaredFields()) {
            if (!Modifier.isPrivate(field.getModifiers())) {
                members.add(access(field.getModifiers()) + field.getType().getSimpleName() + " "
                        + field.getName() + " = " + field.get(null));
            }
        }
        for (Constructor<?> maker : TableChanger.class.getDeclaredConstructors()) {
            members.add(access(maker.getModifiers()) + "TableChanger"
                    + tail(maker.getParameterTypes(), maker.getExceptionTypes()));
        }
        for (Method method : TableChanger.class.getDeclaredMethods()) {
            if (!Modifier.isPrivate(method.getModifiers())) {
                members.add(access(method.getModifiers()) + method.getReturnType() + " "
                        + method.getName()
                        + tail(method.getParameterTypes(), method.getExceptionTypes()));
            }
        }
        return members;
    }

    private static String access(int modifiers) {
        return Modifier.isPublic(modifiers) ? "public " : "not public ";
    }

    private static String tail(Class<?>[] parameters, Class<?>[] exceptions) {
        return "(" + names(parameters) + ") throws [" + names(exceptions) + "]";
    }

    private static String names(Class<?>[] classes) {
        List<String> names = Arrays.stream(classes).map(Class::getSimpleName).toList();
        return String.join(", ", names);
    }

    private static Set<String> privateNamesThatArePublic() {
        Set<String> open = new HashSet<>();
        Set<String> hidden = new TreeSet<>();
        for (Method method : TableChanger.class.getDeclaredMethods()) {
            (Modifier.isPublic(method.getModifiers()) ? open : hidden).add(method.getName());
        }
        hidden.retainAll(open);
        return hidden;
    }
}
