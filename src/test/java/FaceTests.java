import java.lang.reflect.Constructor;
import java.lang.reflect.Field;
import java.lang.reflect.Method;
import java.lang.reflect.Modifier;
import java.util.ArrayList;
import java.util.Arrays;
import java.util.Collections;
import java.util.List;

/** The class shows just the document's face, with its exceptions, and nothing besides. */
public final class FaceTests {
    private static final String[] FACE = {
        "int begin(int) throws IllegalArgumentException",
        "int open(int) throws IllegalArgumentException, IllegalStateException",
        "int toggle(int) throws IndexOutOfBoundsException",
        "int set(int, int) throws IndexOutOfBoundsException, IllegalArgumentException",
        "int send(int) throws IllegalArgumentException",
        "int receive(int, int) throws IndexOutOfBoundsException, IllegalArgumentException",
        "int flip(int) throws IndexOutOfBoundsException",
        "int roll(int) throws IllegalArgumentException",
        "int append(int) throws IllegalArgumentException, IllegalStateException",
        "int clearBuffer()",
        "int firstError()",
        "int receiveAll() throws IllegalArgumentException, IllegalStateException",
        "int undo() throws IllegalStateException",
        "int place(int, int) throws IndexOutOfBoundsException, IllegalArgumentException",
        "int code(int) throws IllegalArgumentException",
        "int word(int) throws IllegalArgumentException",
        "int read(int) throws IllegalArgumentException",
        "int path(int, int) throws IllegalArgumentException",
        "int heard(int) throws IndexOutOfBoundsException",
        "int count(int) throws IllegalArgumentException",
        "int setting(int) throws IndexOutOfBoundsException",
        "int ifFlipped(int) throws IndexOutOfBoundsException",
        "int ifPaths(int) throws IllegalArgumentException",
        "int weakest()",
        "int borne()",
        "double unsureShare()",
        "long digest()",
    };

    public static void main(String[] args) throws NoSuchFieldException {
        Checks checks = new Checks("the face");
        Class<?> face = PairedChannels.class;
        checks.dueText("the class", Modifier.toString(face.getModifiers()), "public final");
        List<String> shown = new ArrayList<>();
        List<String> hidden = new ArrayList<>();
        for (Method method : face.getDeclaredMethods()) {
            if (Modifier.isPrivate(method.getModifiers())) {
                hidden.add(method.getName());
            } else {
                checks.dueText(method.getName(), Modifier.toString(method.getModifiers()), "public");
                shown.add(line(method));
            }
        }
        List<String> due = new ArrayList<>(Arrays.asList(FACE));
        Collections.sort(due);
        Collections.sort(shown);
        checks.dueText("the methods", String.join("\n", shown), String.join("\n", due));
        for (Method method : face.getMethods()) {
            checks.due("a private " + method.getName(), hidden.contains(method.getName()) ? 1 : 0, 0);
        }
        for (Field field : face.getDeclaredFields()) {
            boolean isHidden = Modifier.isPrivate(field.getModifiers());
            checks.due(field.getName(), isHidden == field.getName().equals("NONE") ? 1 : 0, 0);
        }
        Field none = face.getField("NONE");
        checks.dueText("NONE", none.getType() + " " + Modifier.toString(none.getModifiers()),
                "int public static final");
        Constructor<?>[] constructors = face.getDeclaredConstructors();
        checks.due("constructors", constructors.length, 1);
        checks.dueText("the constructor", constructors[0].toString(), "public PairedChannels()");
        checks.end();
    }

    private static String line(Method method) {
        List<String> takes = new ArrayList<>();
        for (Class<?> type : method.getParameterTypes()) {
            takes.add(type.getSimpleName());
        }
        List<String> thrown = new ArrayList<>();
        for (Class<?> type : method.getExceptionTypes()) {
            thrown.add(type.getSimpleName());
        }
        return method.getReturnType() + " " + method.getName() + "(" + String.join(", ", takes)
                + ")" + (thrown.isEmpty() ? "" : " throws " + String.join(", ", thrown));
    }
}
