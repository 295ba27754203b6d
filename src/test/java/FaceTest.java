import java.lang.reflect.Constructor;
import java.lang.reflect.Field;
import java.lang.reflect.Method;
import java.lang.reflect.Modifier;
import java.util.ArrayList;
import java.util.Arrays;
import java.util.List;
import java.util.TreeSet;

/** The public face is the document's, and nothing more. */
public final class FaceTest {
    private static final String[] FACE = {
        "int feed(int,int,int,int,int)", "int law(int)", "int dreads(int,int)", "int orders(int)",
        "int nights(int)", "int tried(int,int)", "int personIs(int,int)", "int doorIs(int,int)",
        "int taught(int,int)", "int crew(int)", "int lodgings()", "int couples(int)",
        "int fashion(int,int,int)", "int fears(int)", "int unlike(int,int)", "int mostLike(int)",
        "int circles(int,int)", "int keystones()", "int steps(int,int)", "int guess(int,int)",
        "int sentNext(int,int)", "int guards(int)", "long word(int,int,int)", "int rooms(int,int)",
        "boolean seed(int)", "int keep()", "boolean undo()", "int check(int)", "int count(int)"};

    public static void main(String[] args) {
        Checks checks = new Checks();
        List<String> shown = new ArrayList<>();
        TreeSet<String> publicNames = new TreeSet<>();
        for (Method method : FearLocks.class.getDeclaredMethods()) {
            if (!Modifier.isPrivate(method.getModifiers())) {
                shown.add(signature(method));
                publicNames.add(method.getName());
                checks.due(method + " is public and not static",
                    Modifier.isPublic(method.getModifiers()) && !Modifier.isStatic(method.getModifiers()), true);
            }
        }
        checks.due("the methods are the document's", new TreeSet<>(shown).equals(new TreeSet<>(Arrays.asList(FACE))), true);
        checks.due("how many", shown.size(), FACE.length);
        for (Method method : FearLocks.class.getDeclaredMethods()) {
            checks.due(method + " has a public one's name and is private",
                Modifier.isPrivate(method.getModifiers()) && publicNames.contains(method.getName()), false);
        }
        for (Field field : FearLocks.class.getDeclaredFields()) {
            boolean isNone = field.getName().equals("NONE");
            checks.due(field + " is public", Modifier.isPublic(field.getModifiers()), isNone);
            checks.due(field + " is private", Modifier.isPrivate(field.getModifiers()), !isNone);
        }
        for (Class<?> inside : FearLocks.class.getDeclaredClasses()) {
            checks.due(inside + " is private and static",
                Modifier.isPrivate(inside.getModifiers()) && Modifier.isStatic(inside.getModifiers()), true);
            for (Method method : inside.getDeclaredMethods()) {
                checks.due(method + " has a public one's name", publicNames.contains(method.getName()), false);
            }
        }
        Constructor<?>[] constructors = FearLocks.class.getDeclaredConstructors();
        checks.due("constructors", constructors.length, 1);
        checks.due("it is public", Modifier.isPublic(constructors[0].getModifiers()), true);
        checks.due("it takes", constructors[0].getParameterCount(), 0);
        checks.due("the class is final", Modifier.isFinal(FearLocks.class.getModifiers()), true);
        checks.due("NONE", FearLocks.NONE, -1);
        checks.finish();
    }

    private static String signature(Method method) {
        StringBuilder line = new StringBuilder();
        line.append(method.getReturnType()).append(' ').append(method.getName()).append('(');
        for (Class<?> type : method.getParameterTypes()) {
            line.append(line.charAt(line.length() - 1) == '(' ? "" : ",").append(type);
        }
        return line.append(')').toString();
    }
}
