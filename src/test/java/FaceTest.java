import java.lang.reflect.Constructor;
import java.lang.reflect.Field;
import java.lang.reflect.Method;
import java.lang.reflect.Modifier;
import java.util.Set;
import java.util.TreeSet;

/** The public face: every member of the document's face, and no other that is not private. */
public final class FaceTest {
    public static void main(String[] args) {
        Check.due("NONE", FlexRows.NONE, -1001);
        Check.due("BAD", FlexRows.BAD, -1002);
        Check.due("STATE", FlexRows.STATE, -1003);
        Check.due("FULL", FlexRows.FULL, -1004);
        Check.due("final", Modifier.isFinal(FlexRows.class.getModifiers()) ? 1 : 0, 1);
        Check.due("public", Modifier.isPublic(FlexRows.class.getModifiers()) ? 1 : 0, 1);

        Set<String> due = new TreeSet<>(Set.of(
                "NONE", "BAD", "STATE", "FULL", "new()",
                "int type(int)", "int clear()", "int insert(int)", "int remove(int)",
                "int move(int,int)", "int change(int,int,int)", "int hide(int)", "int set(int,int)",
                "int undo()", "int item(int,int)", "int lies(int,int)", "int ordered(int)",
                "int line(int,int)", "int at(int,int)", "int leastWidth(int,int)", "int count(int)",
                "long digest()"));
        Set<String> found = members();
        if (!found.equals(due)) {
            System.out.println("the face is " + found + ", due is " + due);
        }
        Check.due("the face is the document's", found.equals(due) ? 1 : 0, 1);
        Check.finish();
    }

    private static Set<String> members() {
        Set<String> found = new TreeSet<>();
        for (Field field : FlexRows.class.getDeclaredFields()) {
            if (!Modifier.isPrivate(field.getModifiers()) && !field.isSynthetic()) {
                found.add(field.getName());
            }
        }
        for (Constructor<?> made : FlexRows.class.getDeclaredConstructors()) {
            if (!Modifier.isPrivate(made.getModifiers()) && !made.isSynthetic()) {
                found.add("new(" + names(made.getParameterTypes()) + ")");
            }
        }
        for (Method method : FlexRows.class.getDeclaredMethods()) {
            if (!Modifier.isPrivate(method.getModifiers()) && !method.isSynthetic()) {
                found.add(method.getReturnType() + " " + method.getName()
                        + "(" + names(method.getParameterTypes()) + ")");
            }
        }
        return found;
    }

    private static String names(Class<?>[] types) {
        StringBuilder all = new StringBuilder();
        for (Class<?> type : types) {
            all.append(all.length() == 0 ? "" : ",").append(type);
        }
        return all.toString();
    }
}
