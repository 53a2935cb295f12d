import java.lang.reflect.Constructor;
import java.lang.reflect.Field;
import java.lang.reflect.Method;
import java.lang.reflect.Modifier;
import java.util.TreeSet;

/** The public face: just the document's members, and nothing else that another class could see. */
public final class FaceTest {
    public static void main(String[] args) {
        TreeSet<String> due = new TreeSet<>();
        due.add("public final class GroupedNumbers");
        due.add("public GroupedNumbers()");
        due.add("public int GroupedNumbers.feed(int,int,int,int,int)");
        due.add("public int GroupedNumbers.end(int)");
        due.add("public int GroupedNumbers.read(int,int)");
        due.add("public long GroupedNumbers.value()");
        due.add("public int GroupedNumbers.write(int,long)");
        due.add("public int GroupedNumbers.size()");
        due.add("public int GroupedNumbers.at(int)");
        due.add("public void GroupedNumbers.clear()");
        TreeSet<String> face = visibleMembers();
        if (!face.equals(due)) {
            System.out.println("the face is " + face + ", due is " + due);
            System.exit(1);
        }
        System.out.println("the face is as due");
    }

    private static TreeSet<String> visibleMembers() {
        TreeSet<String> face = new TreeSet<>();
        face.add(GroupedNumbers.class.toGenericString());
        for (Constructor<?> made : GroupedNumbers.class.getDeclaredConstructors()) {
            face.add(made.toString());
        }
        for (Method method : GroupedNumbers.class.getDeclaredMethods()) {
            if (!Modifier.isPrivate(method.getModifiers())) {
                face.add(method.toString());
            }
        }
        for (Field field : GroupedNumbers.class.getDeclaredFields()) {
            if (!Modifier.isPrivate(field.getModifiers())) {
                face.add(field.toString());
            }
        }
        return face;
    }
}
