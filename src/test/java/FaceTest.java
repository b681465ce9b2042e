import java.lang.reflect.Constructor;
import java.lang.reflect.Field;
import java.lang.reflect.Method;
import java.lang.reflect.Modifier;
import java.util.Set;
import java.util.TreeSet;

/** The public face, and nothing beside it. */
public final class FaceTest {
    public static void main(String[] args) {
        Checks checks = new Checks();
        checks.same("modifiers of the class", WordMill.class.getModifiers(), Modifier.PUBLIC | Modifier.FINAL);
        Set<String> due = new TreeSet<>(Set.of(
                "public WordMill()",
                "public void WordMill.put(int,long) throws java.lang.IllegalArgumentException",
                "public long WordMill.word(int) throws java.lang.IllegalArgumentException",
                "public long WordMill.code(int,int,int,boolean,int,int) throws java.lang.IllegalArgumentException",
                "public void WordMill.go(int) throws java.lang.IllegalArgumentException",
                "public int WordMill.run(int) throws java.lang.IllegalArgumentException",
                "public int WordMill.count(int)"));
        Set<String> got = visibleMembers();
        if (!got.equals(due)) {
            System.out.println("face: " + got);
        }
        checks.same("the face is the document's", got.equals(due) ? 1 : 0, 1);
        checks.same("static fields that are not final", changeableStatics(), 0);
        checks.end();
    }

    private static Set<String> visibleMembers() {
        Set<String> members = new TreeSet<>();
        for (Constructor<?> each : WordMill.class.getDeclaredConstructors()) {
            add(members, each.getModifiers(), each.toString());
        }
        for (Method each : WordMill.class.getDeclaredMethods()) {
            add(members, each.getModifiers(), each.toString());
        }
        for (Field each : WordMill.class.getDeclaredFields()) {
            add(members, each.getModifiers(), each.toString());
        }
        return members;
    }

    private static void add(Set<String> members, int modifiers, String text) {
        if (!Modifier.isPrivate(modifiers)) {
            members.add(text);
        }
    }

    private static int changeableStatics() {
        int found = 0;
        for (Field each : WordMill.class.getDeclaredFields()) {
            if (Modifier.isStatic(each.getModifiers()) && !Modifier.isFinal(each.getModifiers())) {
                found++;
            }
        }
        return found;
    }
}
