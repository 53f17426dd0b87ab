import java.lang.reflect.Constructor;
import java.lang.reflect.Field;
import java.lang.reflect.Method;
import java.lang.reflect.Modifier;
import java.util.Set;
import java.util.TreeSet;

/** The class has the document's public face and shows nothing else. */
public final class FaceTest {
    private static final Set<String> FACE = Set.of(
        "public static final int PathTree.NONE",
        "public PathTree()",
        "public int PathTree.path(long,int)",
        "public int PathTree.find()",
        "public boolean PathTree.make()",
        "public boolean PathTree.go()",
        "public boolean PathTree.open()",
        "public int PathTree.empty()",
        "public int PathTree.write(long,int)",
        "public int PathTree.byteAt(int)",
        "public boolean PathTree.remove()",
        "public boolean PathTree.move()",
        "public int PathTree.name(int,int)",
        "public int PathTree.count(int)");

    public static void main(String[] args) {
        Set<String> shown = new TreeSet<>();
        for (Field field : PathTree.class.getDeclaredFields()) {
            addShown(shown, field.getModifiers(), field.toGenericString());
        }
        for (Constructor<?> constructor : PathTree.class.getDeclaredConstructors()) {
            addShown(shown, constructor.getModifiers(), constructor.toGenericString());
        }
        for (Method method : PathTree.class.getDeclaredMethods()) {
            addShown(shown, method.getModifiers(), method.toGenericString());
        }
        for (String member : shown) {
            Run.due("in the face: " + member, FACE.contains(member), true);
        }
        for (String member : FACE) {
            Run.due("shown: " + member, shown.contains(member), true);
        }
        Run.due("the class is public and final", PathTree.class.getModifiers(), Modifier.PUBLIC | Modifier.FINAL);
        Run.finish();
    }

    private static void addShown(Set<String> shown, int modifiers, String member) {
        if (!Modifier.isPrivate(modifiers)) {
            shown.add(member);
        }
    }
}
