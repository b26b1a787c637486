import java.lang.reflect.Constructor;
import java.lang.reflect.Field;
import java.lang.reflect.Method;
import java.lang.reflect.Modifier;
import java.util.Arrays;
import java.util.Set;
import java.util.TreeSet;

/**
 * The class has the document's face, and no other member that can be seen from outside but classes
 * that LANGUAGE.md lets stand inside it.
 */
public final class FaceTest {
    private static final Set<String> FACE = new TreeSet<>(Arrays.asList(
            "public static final int NONE",
            "public static final int FULL",
            "public PacketStore(int)",
            "public int put(int)",
            "public int keep(int)",
            "public int delete(int)",
            "public boolean begin(int, int)",
            "public boolean stop()",
            "public int next(int)",
            "public int out(int)",
            "public int count(int)",
            "public int about(int, int)",
            "public int byteAt(int, int)"));

    private FaceTest() {
    }

    public static void main(String[] args) {
        Checks checks = new Checks();
        checks.due("modifiers", Modifier.toString(PacketStore.class.getModifiers()), "public final");
        checks.due("class above", PacketStore.class.getSuperclass(), Object.class);
        checks.due("interfaces", PacketStore.class.getInterfaces().length, 0);
        checks.due("face", membersSeen(), FACE);
        checks.due("private methods with a name of the face", privateMethodsNamedAsPublic(), Set.of());
        for (Class<?> inside : PacketStore.class.getDeclaredClasses()) {
            int modifiers = inside.getModifiers();
            checks.due(inside + " can be seen",
                    Modifier.isPublic(modifiers) || Modifier.isProtected(modifiers), false);
            checks.due(inside + " is static", Modifier.isStatic(modifiers), true);
        }
        checks.due("NONE", PacketStore.NONE, -1);
        checks.due("FULL", PacketStore.FULL, -2);
        checks.endWithVerdict("FaceTest");
    }

    private static Set<String> membersSeen() {
        Set<String> seen = new TreeSet<>();
        for (Field field : PacketStore.class.getDeclaredFields()) {
            addUnlessPrivate(seen, field.getModifiers(), field.toString());
        }
        for (Constructor<?> constructor : PacketStore.class.getDeclaredConstructors()) {
            addUnlessPrivate(seen, constructor.getModifiers(), constructor.toString());
        }
        for (Method method : PacketStore.class.getDeclaredMethods()) {
            addUnlessPrivate(seen, method.getModifiers(), method.toString());
        }
        return seen;
    }

    private static Set<String> privateMethodsNamedAsPublic() {
        Set<String> hidden = new TreeSet<>();
        Set<String> shown = new TreeSet<>();
        for (Method method : PacketStore.class.getDeclaredMethods()) {
            (Modifier.isPrivate(method.getModifiers()) ? hidden : shown).add(method.getName());
        }
        hidden.retainAll(shown);
        return hidden;
    }

    private static void addUnlessPrivate(Set<String> seen, int modifiers, String told) {
        if (!Modifier.isPrivate(modifiers)) {
            seen.add(told.replace("PacketStore.", "").replace(",", ", "));
        }
    }
}
