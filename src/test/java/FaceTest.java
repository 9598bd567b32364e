import java.lang.reflect.Field;
import java.lang.reflect.Method;
import java.lang.reflect.Modifier;
import java.util.Arrays;
import java.util.TreeSet;

/** The public face is the document's, and all beside it is private. */
public final class FaceTest {
    private static final String[] METHODS = {
        "void room(int,int) A", "int wall(int,int) S A", "int goods(int) A", "int row(int,int) S A",
        "void machine(int,int,int,int) I A", "int hour(int,int,int) S A", "int degrees()", "int damp()",
        "int layer(int) I", "int held()", "boolean on(int) I", "long book(int,int) I", "boolean dew(int) I",
        "int risk(int,int,int) I S A", "int points(int) I", "int rule(int,int,int) S A", "int alarm(int,int) I",
        "void sensor(int,int) I A", "void check(int,int) I S A", "int corrected(int) I", "int silent(int) I",
        "int plan(int,int,int) A", "int count(int) I"
    };

    public static void main(String[] args) throws ReflectiveOperationException {
        Tester t = new Tester();
        Class<?> face = RoomClimate.class;
        t.due("its modifiers", Modifier.toString(face.getModifiers()), "public final");
        t.due("its constructors", Arrays.toString(face.getDeclaredConstructors()), "[public RoomClimate()]");
        t.due("its methods", publicMethods(face), new TreeSet<>(Arrays.asList(METHODS)));
        for (Field field : face.getDeclaredFields()) {
            boolean none = field.getName().equals("NONE");
            String start = Modifier.toString(field.getModifiers());
            t.due("field " + field.getName(), start.startsWith(none ? "public static final" : "private"), true);
        }
        t.due("NONE", face.getField("NONE").getInt(null), -1);
        for (Class<?> inside : face.getDeclaredClasses()) {
            t.due("class " + inside.getName(), Modifier.isStatic(inside.getModifiers()), true);
            t.due("class " + inside.getName(), Modifier.isPublic(inside.getModifiers()), false);
        }
        privateMethodsBearOtherNames(t, face);
        t.end();
    }

    private static TreeSet<String> publicMethods(Class<?> face) {
        TreeSet<String> found = new TreeSet<>();
        for (Method method : face.getDeclaredMethods()) {
            if (!Modifier.isPrivate(method.getModifiers())) {
                found.add(signature(method));
            }
        }
        return found;
    }

    private static String signature(Method method) {
        StringBuilder text = new StringBuilder();
        text.append(method.getReturnType()).append(' ').append(method.getName()).append('(');
        String comma = "";
        for (Class<?> type : method.getParameterTypes()) {
            text.append(comma).append(type);
            comma = ",";
        }
        text.append(')');
        for (Class<?> type : method.getExceptionTypes()) {
            text.append(' ').append(letter(type));
        }
        return text.toString();
    }

    private static char letter(Class<?> type) {
        return type == IndexOutOfBoundsException.class ? 'I'
            : type == IllegalStateException.class ? 'S'
            : type == IllegalArgumentException.class ? 'A' : '?';
    }

    private static void privateMethodsBearOtherNames(Tester t, Class<?> face) {
        TreeSet<String> names = new TreeSet<>();
        for (Method method : face.getMethods()) {
            names.add(method.getName());
        }
        for (Method method : face.getDeclaredMethods()) {
            if (Modifier.isPrivate(method.getModifiers())) {
                t.due("the name " + method.getName() + " is also public", names.contains(method.getName()), false);
            }
        }
    }
}
