import java.lang.reflect.Constructor;
import java.lang.reflect.Field;
import java.lang.reflect.Method;
import java.lang.reflect.Modifier;
import java.util.Set;
import java.util.TreeSet;

/** The face is the document's: these members, and no other one that is not private. */
public final class FaceTest {
    private static final Set<String> FACE = Set.of(
        "public static final int SpanDesk.NONE",
        "public SpanDesk()",
        "public boolean SpanDesk.insert(int,int,int,int)",
        "public boolean SpanDesk.remove(int)",
        "public int SpanDesk.lines()",
        "public int SpanDesk.assemble() throws java.lang.IllegalArgumentException,java.lang.IllegalStateException",
        "public int SpanDesk.at(int)",
        "public int SpanDesk.address(int)",
        "public int SpanDesk.form(int)",
        "public int SpanDesk.longs()",
        "public int SpanDesk.value(int)",
        "public int SpanDesk.follow(int,boolean) throws java.lang.IndexOutOfBoundsException",
        "public boolean SpanDesk.jumps(int)",
        "public int SpanDesk.trace(int,int,int)");

    public static void main(String[] args) {
        Set<String> due = new TreeSet<>(FACE);
        Set<String> seen = visibleMembers();
        boolean isFinal = Modifier.toString(SpanDesk.class.getModifiers()).equals("public final");
        if (!seen.equals(due) || !isFinal) {
            System.out.println("the face is " + seen + ", due is " + due);
            System.exit(1);
        }
        System.out.println("the face is as due");
    }

    private static Set<String> visibleMembers() {
        Set<String> seen = new TreeSet<>();
        for (Field field : SpanDesk.class.getDeclaredFields()) {
            if (!Modifier.isPrivate(field.getModifiers())) {
                seen.add(field.toString());
            }
        }
        for (Constructor<?> constructor : SpanDesk.class.getDeclaredConstructors()) {
            if (!Modifier.isPrivate(constructor.getModifiers())) {
                seen.add(constructor.toString());
            }
        }
        for (Method method : SpanDesk.class.getDeclaredMethods()) {
            if (!Modifier.isPrivate(method.getModifiers())) {
                seen.add(method.toString());
            }
        }
        return seen;
    }
}
