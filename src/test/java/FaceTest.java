import java.lang.reflect.Field;
import java.lang.reflect.Method;
import java.lang.reflect.Modifier;
import java.util.Arrays;
import java.util.HashSet;
import java.util.List;
import java.util.Set;
import java.util.TreeSet;

/** The public face: what the document lists, and nothing else that is not private. */
public final class FaceTest {
    private static final List<String> METHODS = List.of(
            "public int WovenRow.insert(int,int,long) throws A,I,S",
            "public int WovenRow.delete(int,int) throws A,I,S",
            "public void WovenRow.give(int,int) throws A,I,S",
            "public int WovenRow.tell(int,int) throws A",
            "public boolean WovenRow.holds(int,int) throws A,I",
            "public int WovenRow.at(int,int) throws A",
            "public int WovenRow.place(int,int) throws A,I,S",
            "public long WovenRow.value(int) throws I",
            "public int WovenRow.stamp(int) throws I",
            "public int WovenRow.count(int,int) throws A",
            "public boolean WovenRow.same(int,int) throws A");

    public static void main(String[] args) {
        Check.due("the class", "public final", () -> Modifier.toString(WovenRow.class.getModifiers()));
        Check.due("the methods", new TreeSet<>(METHODS), FaceTest::openMethods);
        Check.due("the constructors", "[public WovenRow()]",
                () -> Arrays.toString(WovenRow.class.getDeclaredConstructors()));
        Check.due("fields that are not private", "[]", FaceTest::openFields);
        Check.due("fields that are static and not final", "[]", FaceTest::staticState);
        Check.due("private methods of a public one's name", "[]", FaceTest::namesakes);
        Check.end();
    }

    private static Set<String> openMethods() {
        Set<String> open = new TreeSet<>();
        for (Method m : WovenRow.class.getDeclaredMethods()) {
            if (!Modifier.isPrivate(m.getModifiers())) {
                open.add(m.toString()
                        .replace("java.lang.IllegalArgumentException", "A")
                        .replace("java.lang.IndexOutOfBoundsException", "I")
                        .replace("java.lang.IllegalStateException", "S"));
            }
        }
        return open;
    }

    private static Set<String> openFields() {
        Set<String> open = new TreeSet<>();
        for (Field f : WovenRow.class.getDeclaredFields()) {
            if (!Modifier.isPrivate(f.getModifiers())) {
                open.add(f.getName());
            }
        }
        return open;
    }

    private static Set<String> staticState() {
        Set<String> state = new TreeSet<>();
        for (Field f : WovenRow.class.getDeclaredFields()) {
            if (Modifier.isStatic(f.getModifiers()) && !Modifier.isFinal(f.getModifiers())) {
                state.add(f.getName());
            }
        }
        return state;
    }

    private static Set<String> namesakes() {
        Set<String> open = new HashSet<>();
        for (Method m : WovenRow.class.getMethods()) {
            open.add(m.getName());
        }
        Set<String> hidden = new TreeSet<>();
        for (Method m : WovenRow.class.getDeclaredMethods()) {
            if (Modifier.isPrivate(m.getModifiers()) && open.contains(m.getName())) {
                hidden.add(m.getName());
            }
        }
        return hidden;
    }
}
