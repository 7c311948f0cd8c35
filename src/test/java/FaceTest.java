import java.lang.reflect.Constructor;
import java.lang.reflect.Field;
import java.lang.reflect.Method;
import java.lang.reflect.Modifier;
import java.util.Arrays;
import java.util.HashSet;
import java.util.List;
import java.util.Set;
import java.util.TreeSet;
import java.util.stream.Collectors;

/** The public face, and rule 1 of LANGUAGE.md: no other member can be seen. */
public final class FaceTest {
    private static final List<String> FACE = List.of("int feed(long, long, long)", "int republic()", "int years()",
        "int person(int, int)", "int grudge(int, int)", "int against(int, int)", "int governs()", "int tax()",
        "int gift(int, int)", "int cast(int, int)", "int die(int)", "int day()", "boolean undo()", "int judged(int)",
        "int next(int)", "int bring(int)", "int bears(int)", "int falls()", "int quiets()", "int should(int)",
        "boolean hear(int, boolean)", "int bars(int)", "int ask()", "int sets(int, int, int)", "int ease()",
        "int rests(int, int, int, int)", "int rule(int, int)", "int ages(int, int, int)", "boolean mark(int, boolean)",
        "int count(int)");

    public static void main(String[] args) {
        Class<?> face = VoteAgainst.class;
        Check.due("public and final", Modifier.isPublic(face.getModifiers()) && Modifier.isFinal(face.getModifiers()), true);
        Set<String> seen = new TreeSet<>();
        Set<String> names = new HashSet<>();
        for (Method method : face.getDeclaredMethods()) {
            if (Modifier.isPublic(method.getModifiers())) {
                seen.add(told(method));
                names.add(method.getName());
            }
        }
        Check.due("the methods are those of the document", seen.equals(new TreeSet<>(FACE)), true);
        Check.due("one constructor", face.getDeclaredConstructors().length, 1);
        Constructor<?> constructor = face.getDeclaredConstructors()[0];
        Check.due("without arguments, public", constructor.getParameterCount() == 0 && Modifier.isPublic(constructor.getModifiers()), true);
        for (Method method : face.getDeclaredMethods()) {
            boolean isPublic = Modifier.isPublic(method.getModifiers());
            Check.due("can be seen: " + method, isPublic || Modifier.isPrivate(method.getModifiers()), true);
            Check.due("has a public name: " + method, !isPublic && names.contains(method.getName()), false);
        }
        for (Field field : face.getDeclaredFields()) {
            boolean isConstant = field.getName().equals("NONE");
            Check.due("can be seen: " + field, Modifier.isPublic(field.getModifiers()), isConstant);
            Check.due("can be seen: " + field, Modifier.isPrivate(field.getModifiers()), !isConstant);
        }
        for (Class<?> inside : face.getDeclaredClasses()) {
            Check.due("private and static: " + inside, Modifier.isPrivate(inside.getModifiers()) && Modifier.isStatic(inside.getModifiers()), true);
            for (Method method : inside.getDeclaredMethods()) {
                Check.due("has a public name: " + method, names.contains(method.getName()), false);
            }
        }
        Check.end();
    }

    private static String told(Method method) {
        String parameters = Arrays.stream(method.getParameterTypes()).map(Class::getName).collect(Collectors.joining(", "));
        return method.getReturnType().getName() + " " + method.getName() + "(" + parameters + ")";
    }
}
