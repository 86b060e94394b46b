import java.lang.reflect.Constructor;
import java.lang.reflect.Field;
import java.lang.reflect.Method;
import java.lang.reflect.Modifier;
import java.util.Arrays;
import java.util.Set;
import java.util.TreeSet;

/** The public face is that of the document and nothing else can be seen from outside (rule 1, rule 5). */
public final class FaceTest {
    private static final Check CHECK = new Check("face");

    private static final String[] METHODS = {
        "public boolean PredictorKinds.told(int)",
        "public boolean PredictorKinds.update(int,boolean)",
        "public boolean PredictorKinds.early(boolean)",
        "public int PredictorKinds.history()",
        "public int PredictorKinds.mark() throws java.lang.UnsupportedOperationException",
        "public int PredictorKinds.repair(int) throws java.lang.IndexOutOfBoundsException",
        "public int PredictorKinds.row(int)",
        "public int PredictorKinds.part(int)",
        "public int PredictorKinds.storage()",
        "public int PredictorKinds.count(int)",
        "public int PredictorKinds.several(int,int) throws java.lang.IllegalArgumentException",
    };

    public static void main(String[] args) {
        Class<?> face = PredictorKinds.class;
        CHECK.due("public", Modifier.isPublic(face.getModifiers()), true);
        CHECK.due("final", Modifier.isFinal(face.getModifiers()), true);
        constructors(face);
        methods(face);
        for (Field field : face.getDeclaredFields()) {
            CHECK.due("private: " + field, Modifier.isPrivate(field.getModifiers()), true);
        }
        for (Class<?> inside : face.getDeclaredClasses()) {
            int modifiers = inside.getModifiers();
            CHECK.due("static: " + inside, Modifier.isStatic(modifiers), true);
            CHECK.due("hidden: " + inside, Modifier.isPublic(modifiers) || Modifier.isProtected(modifiers), false);
        }
        staticFields(face);
        CHECK.end();
    }

    private static void constructors(Class<?> face) {
        Constructor<?>[] constructors = face.getDeclaredConstructors();
        CHECK.due("constructors", constructors.length, 1);
        CHECK.due("constructor", constructors[0].toGenericString().equals("public PredictorKinds(int,int,int)"), true);
    }

    private static void methods(Class<?> face) {
        Set<String> seen = new TreeSet<>();
        Set<String> publicNames = new TreeSet<>();
        for (Method method : face.getDeclaredMethods()) {
            if (!Modifier.isPrivate(method.getModifiers())) {
                seen.add(method.toString());
                publicNames.add(method.getName());
            }
        }
        Set<String> due = new TreeSet<>(Arrays.asList(METHODS));
        CHECK.due("methods " + seen + " as the document's " + due, seen.equals(due), true);
        for (Method method : face.getDeclaredMethods()) {
            if (Modifier.isPrivate(method.getModifiers())) {
                CHECK.due("own name: " + method, publicNames.contains(method.getName()), false);
            }
        }
    }

    private static void staticFields(Class<?> face) {
        for (Field field : face.getDeclaredFields()) {
            lasting(field);
        }
        for (Class<?> inside : face.getDeclaredClasses()) {
            for (Field field : inside.getDeclaredFields()) {
                lasting(field);
            }
        }
    }

    private static void lasting(Field field) {
        if (Modifier.isStatic(field.getModifiers())) {
            CHECK.due("final: " + field, Modifier.isFinal(field.getModifiers()), true);
        }
    }
}
