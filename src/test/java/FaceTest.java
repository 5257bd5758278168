import java.lang.reflect.Constructor;
import java.lang.reflect.Field;
import java.lang.reflect.Method;
import java.lang.reflect.Modifier;
import java.util.Arrays;
import java.util.TreeSet;

/** The public face: what the document writes, and nothing else that can be seen. */
public final class FaceTest {
    public static void main(String[] args) {
        Rig.part("face");
        Class<?> c = MainframeCore.class;
        Rig.due("public and final", Modifier.isPublic(c.getModifiers()) && Modifier.isFinal(c.getModifiers()), true);
        TreeSet<String> seen = new TreeSet<>();
        for (Constructor<?> x : c.getDeclaredConstructors()) {
            if (!Modifier.isPrivate(x.getModifiers())) {
                seen.add("new " + Arrays.toString(x.getParameterTypes()));
            }
        }
        for (Method x : c.getDeclaredMethods()) {
            if (!Modifier.isPrivate(x.getModifiers())) {
                seen.add(x.getReturnType() + " " + x.getName() + Arrays.toString(x.getParameterTypes())
                    + Arrays.toString(x.getExceptionTypes()));
            }
        }
        for (Field x : c.getDeclaredFields()) {
            if (!Modifier.isPrivate(x.getModifiers())) {
                seen.add("field " + x.getName());
            }
        }
        String argument = "[class java.lang.IllegalArgumentException]";
        String index = "[class java.lang.IndexOutOfBoundsException]";
        TreeSet<String> face = new TreeSet<>(Arrays.asList("new []", "int register[int]" + index,
            "void put[int, int]" + index, "long status[][]", "void load[long][]",
            "void write[int, long, int]" + argument, "long read[int, int]" + argument,
            "int key[int, int]" + argument, "void want[int]" + argument, "int tick[int]" + argument,
            "int step[int]" + argument, "boolean waits[][]", "int told[int]" + argument, "int sum[][]"));
        Rig.due("members", seen.toString(), face.toString());
        Rig.end();
    }
}
