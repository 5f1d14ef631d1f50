import java.lang.reflect.Constructor;
import java.lang.reflect.Field;
import java.lang.reflect.Method;
import java.lang.reflect.Modifier;
import java.util.Arrays;
import java.util.HashSet;
import java.util.Set;
import java.util.TreeSet;

/** The class shows the document's face, and nothing else; no own method bears a public one's name. */
public final class FaceTest {
    private static final Check CHECK = new Check();

    private static final String[] METHODS = {
        "int add(int)", "int alphabet(int,int,int,int,int,int)", "int at(int,int)", "int begins(int,int)", "int clear()",
        "int count(int,int,int)", "int depth(int)", "int find(int,int,int)", "int isMirror()", "int lengthen(int,int)",
        "int letter(int)", "int many(int,int)", "int mirror()", "int off(int,int,int,int)", "int ring(int,int,int,int)",
        "int run(int,int)", "int runs()", "int shorten(int)", "int sum(int,int)", "int take(int,int,int)",
        "int told(int)", "int turn(int)", "int twice()", "int unlike(int,int,int)", "long digest()",
    };
    private static final String[] CONSTANTS = {"FULL", "NONE", "OUTSIDE", "STATE", "UNKNOWN"};

    public static void main(String[] args) {
        Class<?> face = SelfRows.class;
        CHECK.due("public and final", Modifier.isPublic(face.getModifiers()) && Modifier.isFinal(face.getModifiers()));
        Set<String> methods = new TreeSet<>();
        Set<String> publicNames = new HashSet<>();
        for (Method method : face.getDeclaredMethods()) {
            if (Modifier.isPrivate(method.getModifiers())) continue;
            methods.add(told(method));
            publicNames.add(method.getName());
        }
        CHECK.due("the methods of the face: " + methods, methods.equals(new TreeSet<>(Arrays.asList(METHODS))));
        for (Method method : face.getDeclaredMethods()) {
            boolean own = Modifier.isPrivate(method.getModifiers());
            CHECK.due("an own name for " + method, !own || !publicNames.contains(method.getName()));
        }
        checkConstants(face);
        checkConstructor(face);
        for (Class<?> inside : face.getDeclaredClasses()) {
            int modifiers = inside.getModifiers();
            CHECK.due("inside and static: " + inside, Modifier.isStatic(modifiers) && !Modifier.isPublic(modifiers));
        }
        CHECK.end();
    }

    private static String told(Method method) {
        StringBuilder text = new StringBuilder(method.getReturnType().getName()).append(' ').append(method.getName()).append('(');
        Class<?>[] types = method.getParameterTypes();
        for (int i = 0; i < types.length; i++) text.append(i == 0 ? "" : ",").append(types[i].getName());
        return text.append(')').toString();
    }

    private static void checkConstants(Class<?> face) {
        Set<String> names = new TreeSet<>();
        for (Field field : face.getDeclaredFields()) {
            int modifiers = field.getModifiers();
            if (Modifier.isPrivate(modifiers)) continue;
            names.add(field.getName());
            boolean constant = Modifier.isPublic(modifiers) && Modifier.isStatic(modifiers) && Modifier.isFinal(modifiers);
            CHECK.due("a public constant int: " + field, constant && field.getType() == int.class);
        }
        CHECK.due("the constants of the face: " + names, names.equals(new TreeSet<>(Arrays.asList(CONSTANTS))));
    }

    private static void checkConstructor(Class<?> face) {
        Constructor<?>[] all = face.getDeclaredConstructors();
        boolean plain = all.length == 1 && Modifier.isPublic(all[0].getModifiers()) && all[0].getParameterCount() == 0;
        CHECK.due("one public constructor without parameters", plain);
    }
}
