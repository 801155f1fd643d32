import java.lang.reflect.Constructor;
import java.lang.reflect.Field;
import java.lang.reflect.Method;
import java.lang.reflect.Modifier;
import java.util.Arrays;
import java.util.TreeSet;

/** The public face is the document's, and no more. */
public final class FaceTest {
    public static void main(String[] args) {
        Due.same("class", Modifier.toString(SpellDesk.class.getModifiers()), "public final");
        TreeSet<String> face = new TreeSet<>();
        for (Method method : SpellDesk.class.getDeclaredMethods()) {
            if (!Modifier.isPrivate(method.getModifiers())) {
                face.add(method.toString());
            }
        }
        for (Constructor<?> constructor : SpellDesk.class.getDeclaredConstructors()) {
            face.add(constructor.toString());
        }
        for (Field field : SpellDesk.class.getDeclaredFields()) {
            if (!Modifier.isPrivate(field.getModifiers())) {
                face.add(field.toString());
            }
        }
        Due.same("face", face, new TreeSet<>(Arrays.asList(
            "public SpellDesk()",
            "public void SpellDesk.type(int,int,int,int) throws java.lang.IllegalStateException",
            "public int SpellDesk.typed()",
            "public int SpellDesk.run()",
            "public int SpellDesk.size()",
            "public int SpellDesk.output(int) throws java.lang.IndexOutOfBoundsException",
            "public int SpellDesk.lost()",
            "public void SpellDesk.wipe()",
            "public int SpellDesk.entries()",
            "public int SpellDesk.rules(boolean)")));
        for (Class<?> inside : SpellDesk.class.getDeclaredClasses()) {
            Due.same(inside + " is static", Modifier.isStatic(inside.getModifiers()), true);
            Due.same(inside + " is public", Modifier.isPublic(inside.getModifiers()), false);
        }
        Due.end();
    }
}
