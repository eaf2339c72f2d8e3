import java.lang.reflect.Constructor;
import java.lang.reflect.Field;
import java.lang.reflect.Method;
import java.lang.reflect.Modifier;
import java.util.Set;
import java.util.TreeSet;

/**
 * The face is the document's: these members, and no other one that is not private. And what
 * LANGUAGE.md asks of the members that nobody sees, as far as the compiled class can tell it.
 */
public final class FaceTest {
    private static final Set<String> FACE = Set.of(
        "public static final int SpanDesk.NONE",
        "public SpanDesk()",
        "public boolean SpanDesk.insert(int,int,int,int)",
        "public boolean SpanDesk.remove(int)",
        "public int SpanDesk.lines()",
        "public int SpanDesk.assemble() throws java.lang.IllegalArgumentException,java.lang.IllegalStateException",
        "public int SpanDesk.at(int)",
        "public int SpanDesk.address(int)",
        "public int SpanDesk.form(int)",
        "public int SpanDesk.longs()",
        "public int SpanDesk.value(int)",
        "public int SpanDesk.follow(int,boolean) throws java.lang.IndexOutOfBoundsException",
        "public boolean SpanDesk.jumps(int)",
        "public int SpanDesk.trace(int,int,int)");

    private static int wrong = 0;

    public static void main(String[] args) {
        due("the face", visibleMembers(), new TreeSet<>(FACE));
        due("the class", Modifier.toString(SpanDesk.class.getModifiers()), "public final");
        dueHidden(SpanDesk.class);
        for (Class<?> inside : SpanDesk.class.getDeclaredClasses()) {
            due(inside + " is static", Modifier.isStatic(inside.getModifiers()), true);
            due(inside + " is public", Modifier.isPublic(inside.getModifiers()), false);
            due(inside + " is protected", Modifier.isProtected(inside.getModifiers()), false);
            dueHidden(inside);
        }
        System.out.println(wrong == 0 ? "the face is as due" : wrong + " checks failed");
        if (wrong != 0) {
            System.exit(1);
        }
    }

    /** Rules 1, 5 and 11: names that the face has, static state, parameters and fields. */
    private static void dueHidden(Class<?> owner) {
        int fields = 0;
        for (Field field : owner.getDeclaredFields()) {
            boolean isStatic = Modifier.isStatic(field.getModifiers());
            due(field + " changes for all objects", isStatic && !Modifier.isFinal(field.getModifiers()), false);
            fields += isStatic ? 0 : 1;
        }
        due(owner + " has at most twenty fields", fields <= 20, true);
        for (Method method : owner.getDeclaredMethods()) {
            boolean isFace = FACE.contains(method.toString());
            due(method + " has a name of the face", !isFace && isFaceName(method.getName()), false);
            due(method + " has at most seven parameters", method.getParameterCount() <= 7, true);
        }
    }

    private static boolean isFaceName(String name) {
        return FACE.stream().anyMatch(member -> member.contains("SpanDesk." + name + "("));
    }

    private static void due(String what, Object got, Object want) {
        if (!got.equals(want)) {
            wrong++;
            System.out.println(what + ": answered " + got + ", due is " + want);
        }
    }

    private static Set<String> visibleMembers() {
        Set<String> seen = new TreeSet<>();
        for (Field field : SpanDesk.class.getDeclaredFields()) {
            if (!Modifier.isPrivate(field.getModifiers())) {
                seen.add(field.toString());
            }
        }
        for (Constructor<?> constructor : SpanDesk.class.getDeclaredConstructors()) {
            if (!Modifier.isPrivate(constructor.getModifiers())) {
                seen.add(constructor.toString());
            }
        }
        for (Method method : SpanDesk.class.getDeclaredMethods()) {
            if (!Modifier.isPrivate(method.getModifiers())) {
                seen.add(method.toString());
            }
        }
        return seen;
    }
}
