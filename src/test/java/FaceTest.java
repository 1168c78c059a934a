import java.lang.reflect.Constructor;
import java.lang.reflect.Field;
import java.lang.reflect.Method;
import java.lang.reflect.Modifier;
import java.util.Arrays;
import java.util.TreeSet;

/** The public face: all of it, and nothing beside it. */
public final class FaceTest {
    public static void main(String[] args) {
        Class<?> face = VaryStore.class;
        Due.due("public and final", face.getModifiers() & (Modifier.PUBLIC | Modifier.FINAL),
                Modifier.PUBLIC | Modifier.FINAL);
        TreeSet<String> seen = new TreeSet<>();
        for (Field field : face.getDeclaredFields()) {
            if (!Modifier.isPrivate(field.getModifiers())) {
                seen.add(field.toString());
            }
        }
        for (Constructor<?> constructor : face.getDeclaredConstructors()) {
            if (!Modifier.isPrivate(constructor.getModifiers())) {
                seen.add(constructor.toString());
            }
        }
        for (Method method : face.getDeclaredMethods()) {
            if (!Modifier.isPrivate(method.getModifiers())) {
                seen.add(method.toString());
            }
        }
        String wrongArgument = " throws java.lang.IllegalArgumentException";
        TreeSet<String> want = new TreeSet<>(Arrays.asList(
                "public static final int VaryStore.NONE",
                "public VaryStore()",
                "public boolean VaryStore.type(long,int)",
                "public int VaryStore.ask(int)" + wrongArgument,
                "public boolean VaryStore.keep(int)" + wrongArgument,
                "public boolean VaryStore.again(int)" + wrongArgument,
                "public int VaryStore.fault()",
                "public int VaryStore.purge(int)",
                "public int VaryStore.pass(int)" + wrongArgument,
                "public int VaryStore.thing(int,int) throws java.util.NoSuchElementException",
                "public int VaryStore.things()"));
        Due.dueText("the face", seen.toString(), want.toString());
        Due.dueText("above it", face.getGenericSuperclass().getTypeName(), "java.lang.Object");
        Due.due("interfaces", face.getInterfaces().length, 0);
        classesInside(face);
        Due.end();
    }

    // "the classes inside it, which are private or package-visible and static"
    private static void classesInside(Class<?> face) {
        for (Class<?> inside : face.getDeclaredClasses()) {
            int flags = inside.getModifiers();
            Due.due(inside + " is static", Modifier.isStatic(flags) ? 1 : 0, 1);
            Due.due(inside + " is seen", Modifier.isPublic(flags) || Modifier.isProtected(flags) ? 1 : 0, 0);
        }
    }
}
