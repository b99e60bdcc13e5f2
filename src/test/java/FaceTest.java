import java.lang.reflect.Constructor;
import java.lang.reflect.Field;
import java.lang.reflect.Method;
import java.lang.reflect.Modifier;
import java.util.Arrays;
import java.util.Set;
import java.util.TreeSet;

/** The class has the members of the document and shows no others (LANGUAGE.md, rule 1). */
public final class FaceTest {
    private static final String[] FACE = {
        "boolean type(char)", "int name(int)", "int value(int)", "int condition()", "int place()", "void give(int)",
        "boolean holds(int)", "int ever(int)", "int implies(int, int)", "int apart(int, int)", "int classes(int)",
        "int many(int)", "boolean inClass(int, int)", "int sample(int, int)", "int printed(int, int)"};

    public static void main(String[] args) {
        Class<?> face = MarkerText.class;
        Check.due("class is public", Modifier.isPublic(face.getModifiers()), true);
        Check.due("class is final", Modifier.isFinal(face.getModifiers()), true);
        methods(face);
        fields(face);
        Constructor<?>[] constructors = face.getDeclaredConstructors();
        Check.due("constructors", constructors.length, 1);
        Check.due("constructor is public", Modifier.isPublic(constructors[0].getModifiers()), true);
        for (Class<?> inside : face.getDeclaredClasses()) {
            Check.due(inside + " is static", Modifier.isStatic(inside.getModifiers()), true);
            Check.due(inside + " is public", Modifier.isPublic(inside.getModifiers()), false);
            Check.due(inside + " is protected", Modifier.isProtected(inside.getModifiers()), false);
        }
        Check.due("NONE", MarkerText.NONE, -1);
        Check.end();
    }

    private static void methods(Class<?> face) {
        Set<String> seen = new TreeSet<>();
        Set<String> publicNames = new TreeSet<>();
        for (Method method : face.getDeclaredMethods()) {
            if (!Modifier.isPrivate(method.getModifiers())) {
                seen.add(signature(method));
                publicNames.add(method.getName());
            }
        }
        Check.due("the methods", seen, new TreeSet<>(Arrays.asList(FACE)));
        for (Method method : face.getDeclaredMethods()) {
            if (Modifier.isPrivate(method.getModifiers())) {
                Check.due(method + " has a public name", publicNames.contains(method.getName()), false);
            }
        }
    }

    private static void fields(Class<?> face) {
        for (Field field : face.getDeclaredFields()) {
            boolean isNone = field.getName().equals("NONE");
            Check.due(field + " is private", Modifier.isPrivate(field.getModifiers()), !isNone);
        }
    }

    private static String signature(Method method) {
        String parameters = Arrays.toString(method.getParameterTypes());
        return method.getReturnType() + " " + method.getName() + "("
                + parameters.substring(1, parameters.length() - 1) + ")";
    }
}
