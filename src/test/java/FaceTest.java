import java.io.IOException;
import java.lang.reflect.Constructor;
import java.lang.reflect.Field;
import java.lang.reflect.Member;
import java.lang.reflect.Method;
import java.lang.reflect.Modifier;
import java.nio.file.Files;
import java.nio.file.Path;
import java.util.TreeSet;

/** The public face is the one that stands in the document, no member more and none less. */
public final class FaceTest {
    private static final Class<?> FACE = RoomClimate.class;
    private static final Tester t = new Tester();

    public static void main(String[] args) throws IOException, ReflectiveOperationException {
        TreeSet<String> due = documentsMembers();
        t.due("members that the document tells", due.size(), 25);
        TreeSet<String> found = visibleMembers();
        for (String member : due) {
            t.due("the program has " + member, found.contains(member), true);
        }
        for (String member : found) {
            t.due("the document has " + member, due.contains(member), true);
        }
        t.due("the class", FACE.toGenericString(), "public final class RoomClimate");
        t.due("its package", FACE.getPackageName(), "");
        t.due("what it extends", FACE.getSuperclass(), Object.class);
        t.due("what it implements", FACE.getInterfaces().length, 0);
        t.due("NONE", FACE.getField("NONE").getInt(null), -1);
        classesInsideAreHidden();
        privateMethodsBearOtherNames();
        t.end();
    }

    /** The lines of the document's block of Java, without the names of parameters and with no space more. */
    private static TreeSet<String> documentsMembers() throws IOException {
        String document = Files.readString(Path.of("../shared/DOC.md"));
        String block = document.split("```java\n")[1].split("```")[0];
        TreeSet<String> members = new TreeSet<>();
        for (String line : block.split("\n")) {
            String member = line.strip();
            if (member.endsWith(";")) {
                members.add(member.replaceAll("( = -?\\d+)?;$", "")
                    .replaceAll("(int|long|boolean) \\w+(?=[,)])", "$1")
                    .replace(", ", ","));
            }
        }
        return members;
    }

    private static TreeSet<String> visibleMembers() {
        TreeSet<String> members = new TreeSet<>();
        for (Field field : FACE.getDeclaredFields()) {
            addUnlessPrivate(members, field, field.toGenericString());
        }
        for (Constructor<?> constructor : FACE.getDeclaredConstructors()) {
            addUnlessPrivate(members, constructor, constructor.toGenericString());
        }
        for (Method method : FACE.getDeclaredMethods()) {
            addUnlessPrivate(members, method, method.toGenericString());
        }
        return members;
    }

    private static void addUnlessPrivate(TreeSet<String> members, Member member, String text) {
        if (!Modifier.isPrivate(member.getModifiers())) {
            members.add(text.replace("RoomClimate.", "").replace("java.lang.", "").replace(", ", ","));
        }
    }

    private static void classesInsideAreHidden() {
        for (Class<?> inside : FACE.getDeclaredClasses()) {
            int modifiers = inside.getModifiers();
            t.due(inside + " is static", Modifier.isStatic(modifiers), true);
            t.due(inside + " is public", Modifier.isPublic(modifiers), false);
            t.due(inside + " is protected", Modifier.isProtected(modifiers), false);
        }
    }

    private static void privateMethodsBearOtherNames() {
        TreeSet<String> names = new TreeSet<>();
        for (Method method : FACE.getMethods()) {
            names.add(method.getName());
        }
        for (Method method : FACE.getDeclaredMethods()) {
            if (Modifier.isPrivate(method.getModifiers())) {
                t.due("the name " + method.getName() + " is also public", names.contains(method.getName()), false);
            }
        }
        for (Class<?> inside : FACE.getDeclaredClasses()) {
            for (Method method : inside.getDeclaredMethods()) {
                t.due("the name " + method.getName() + " of " + inside + " is also public",
                    names.contains(method.getName()), false);
            }
        }
    }
}
