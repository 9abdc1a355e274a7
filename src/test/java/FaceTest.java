import java.lang.reflect.Constructor;
import java.lang.reflect.Executable;
import java.lang.reflect.Field;
import java.lang.reflect.Method;
import java.lang.reflect.Modifier;
import java.util.Set;
import java.util.TreeSet;

/** The public face: just the members of the document, with their throws clauses, and nothing else to be seen. */
public final class FaceTest {
    private static final String[] FACE = {
        "int NONE",
        "PlanarSketch()",
        "int node(int) IndexOutOfBoundsException IllegalStateException",
        "int line(int,int) NoSuchElementException IllegalArgumentException IllegalStateException",
        "int cut(int) NoSuchElementException",
        "int drop(int) NoSuchElementException",
        "int nodes()",
        "int lines()",
        "int end(int,int) NoSuchElementException IndexOutOfBoundsException",
        "boolean drawable()",
        "int witness()",
        "int pattern()",
        "int corner(int) IllegalStateException IndexOutOfBoundsException",
        "int faces() IllegalStateException",
        "boolean could(int,int) NoSuchElementException IllegalArgumentException",
        "int room()",
        "boolean around(int) NoSuchElementException",
        "int spare()",
        "int pieces()",
        "boolean bridge(int) NoSuchElementException",
        "boolean hinge(int) NoSuchElementException",
        "int colours()",
        "int colour(int) NoSuchElementException",
        "int place(int,int,int) IndexOutOfBoundsException IllegalArgumentException",
        "int at(int,int) IndexOutOfBoundsException",
        "boolean meets(int,int) NoSuchElementException IllegalArgumentException",
        "int wrong()",
        "boolean flat()",
        "int box()",
    };

    public static void main(String[] args) {
        Class<?> desk = PlanarSketch.class;
        Set<String> seen = new TreeSet<>();
        for (Field field : desk.getDeclaredFields()) {
            if (!Modifier.isPrivate(field.getModifiers())) {
                seen.add(field.getType() + " " + field.getName());
            }
        }
        for (Constructor<?> made : desk.getDeclaredConstructors()) {
            addIfSeen(seen, "PlanarSketch", made);
        }
        Set<String> publicNames = new TreeSet<>();
        Set<String> privateNames = new TreeSet<>();
        for (Method method : desk.getDeclaredMethods()) {
            addIfSeen(seen, method.getReturnType() + " " + method.getName(), method);
            (Modifier.isPrivate(method.getModifiers()) ? privateNames : publicNames).add(method.getName());
        }
        Check.same("the face", new TreeSet<>(Set.of(FACE)), seen);
        privateNames.retainAll(publicNames);
        Check.same("private methods with public names", Set.of(), privateNames);
        Check.same("modifiers of the class", Modifier.PUBLIC | Modifier.FINAL, desk.getModifiers());
        Check.finish("FaceTest");
    }

    private static void addIfSeen(Set<String> seen, String name, Executable member) {
        if (Modifier.isPrivate(member.getModifiers())) {
            return;
        }
        StringBuilder text = new StringBuilder(name).append('(');
        for (Class<?> parameter : member.getParameterTypes()) {
            text.append(text.charAt(text.length() - 1) == '(' ? "" : ",").append(parameter.getSimpleName());
        }
        text.append(')');
        for (Class<?> thrown : member.getExceptionTypes()) {
            text.append(' ').append(thrown.getSimpleName());
        }
        seen.add((Modifier.isPublic(member.getModifiers()) ? "" : "not public: ") + text);
    }
}
