import java.lang.reflect.Constructor;
import java.lang.reflect.Field;
import java.lang.reflect.Member;
import java.lang.reflect.Method;
import java.lang.reflect.Modifier;
import java.util.Set;
import java.util.TreeSet;

/** The public face: every member of the document's face, just as it is written there, and no other one. */
public final class FaceTest {
    private static final Set<String> DUE = Set.of(
            "public static final int NONE", "public static final int BAD",
            "public static final int STATE", "public static final int FULL",
            "public FlexRows()",
            "public int type(int)", "public int clear()", "public int insert(int)", "public int remove(int)",
            "public int move(int,int)", "public int change(int,int,int)", "public int hide(int)",
            "public int set(int,int)", "public int undo()", "public int item(int,int)",
            "public int lies(int,int)", "public int ordered(int)", "public int line(int,int)",
            "public int at(int,int)", "public int leastWidth(int,int)", "public int count(int)",
            "public long digest()");

    public static void main(String[] args) {
        constants();
        theClass();
        members();
        Check.finish();
    }

    private static void constants() {
        Check.due("NONE", FlexRows.NONE, -1001);
        Check.due("BAD", FlexRows.BAD, -1002);
        Check.due("STATE", FlexRows.STATE, -1003);
        Check.due("FULL", FlexRows.FULL, -1004);
    }

    /** 'public final class FlexRows', of no kind but its own, and what is inside it is not seen from outside. */
    private static void theClass() {
        Check.due("public final class", FlexRows.class.getModifiers(), Modifier.PUBLIC | Modifier.FINAL);
        Check.holds("the class has no package", FlexRows.class.getPackageName().isEmpty());
        Check.holds("the class extends no other one", FlexRows.class.getSuperclass() == Object.class);
        Check.due("the interfaces of the class", FlexRows.class.getInterfaces().length, 0);
        Check.due("the classes inside that are seen from outside", FlexRows.class.getClasses().length, 0);
    }

    private static void members() {
        Set<String> found = new TreeSet<>();
        for (Field field : FlexRows.class.getDeclaredFields()) {
            enter(found, field, field.toString());
        }
        for (Constructor<?> made : FlexRows.class.getDeclaredConstructors()) {
            enter(found, made, made.toGenericString());
        }
        for (Method method : FlexRows.class.getDeclaredMethods()) {
            enter(found, method, method.toGenericString());
        }
        for (String member : found) {
            Check.holds("a member of the face is " + member, DUE.contains(member));
        }
        for (String member : DUE) {
            Check.holds("the face has " + member, found.contains(member));
        }
    }

    private static void enter(Set<String> found, Member member, String written) {
        if (!Modifier.isPrivate(member.getModifiers()) && !member.isSynthetic()) {
            found.add(written.replace("FlexRows.", "").replace(", ", ","));
        }
    }
}
