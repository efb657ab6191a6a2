import java.lang.reflect.Constructor;
import java.lang.reflect.Field;
import java.lang.reflect.Method;
import java.lang.reflect.Modifier;
import java.util.Arrays;
import java.util.Set;
import java.util.TreeSet;

/** The class has the document's public face, and no member that is visible beside it. */
public final class FaceTest {
    private static final Check CHECK = new Check("FaceTest");

    private static final Set<String> METHODS = new TreeSet<>(Arrays.asList(
            "int machine[int]",
            "boolean worth[int, int, int]",
            "int purity[int, int, int, int]",
            "boolean most[int, int]",
            "boolean feed[long]",
            "int next[]",
            "int asked[int]",
            "boolean answer[int, int, long]",
            "boolean load[int, int]",
            "int best[int]",
            "long sum[]",
            "long bound[]",
            "boolean proved[]",
            "int changes[]",
            "int take[]",
            "int kept[long]",
            "int clash[int]",
            "long room[int]"));

    public static void main(String[] args) {
        Class<?> face = SettingSearch.class;
        CHECK.due("final", Modifier.isFinal(face.getModifiers()), true);
        CHECK.due("NONE", SettingSearch.NONE, -1);
        methods(face);
        fields(face);
        constructors(face);
        CHECK.finish();
    }

    private static void methods(Class<?> face) {
        Set<String> seen = new TreeSet<>();
        for (Method method : face.getDeclaredMethods()) {
            if (!Modifier.isPrivate(method.getModifiers())) {
                CHECK.due(method + " public", Modifier.isPublic(method.getModifiers()), true);
                CHECK.due(method + " static", Modifier.isStatic(method.getModifiers()), false);
                seen.add(method.getReturnType() + " " + method.getName()
                        + Arrays.toString(method.getParameterTypes()));
            }
        }
        CHECK.due("methods " + seen, seen.equals(METHODS), true);
    }

    private static void fields(Class<?> face) {
        for (Field field : face.getDeclaredFields()) {
            boolean hidden = Modifier.isPrivate(field.getModifiers());
            CHECK.due("visible " + field, !hidden, field.getName().equals("NONE"));
        }
    }

    private static void constructors(Class<?> face) {
        Constructor<?>[] all = face.getDeclaredConstructors();
        CHECK.due("constructors", all.length, 1);
        CHECK.due("parameters", all[0].getParameterCount(), 0);
        CHECK.due("public constructor", Modifier.isPublic(all[0].getModifiers()), true);
    }
}
