import java.lang.reflect.Constructor;
import java.lang.reflect.Field;
import java.lang.reflect.Method;
import java.lang.reflect.Modifier;
import java.util.TreeSet;

/** The face of the class is the document's, and nothing else shows; no private method bears a name of it. */
public final class FaceTest {
    private static final String[] FACE = {
        "ban int (int, int)", "clear int (int)", "end int ()", "label char (int, int)",
        "lend int (int, int, int)", "match int (int, int, int)", "money int (int)", "pass int (int)",
        "player int ()", "proof int (int, int)", "ranked int (int, int, int)", "room int (int, int)",
        "sell boolean (int, int, int)", "skinOf int (int, int)", "stands boolean (int)",
    };

    public static void main(String[] args) {
        Checks.due("modifiers", SkinLeague.class.getModifiers(), Modifier.PUBLIC | Modifier.FINAL);
        TreeSet<String> names = new TreeSet<>();
        StringBuilder got = new StringBuilder();
        for (String text : methodsThatShow(names)) {
            got.append(text).append('\n');
        }
        StringBuilder want = new StringBuilder();
        for (String text : FACE) {
            want.append(text).append('\n');
        }
        Checks.due("methods that show", got.toString(), want.toString());
        Constructor<?>[] made = SkinLeague.class.getDeclaredConstructors();
        Checks.due("constructors", made.length, 1);
        Checks.due("arguments of the constructor", made[0].getParameterCount(), 0);
        Checks.due("the constructor is public", made[0].getModifiers(), Modifier.PUBLIC);
        for (Field field : SkinLeague.class.getDeclaredFields()) {
            boolean shows = !Modifier.isPrivate(field.getModifiers()) && !field.isSynthetic();
            Checks.due("field " + field.getName() + " shows", shows, field.getName().equals("NONE"));
        }
        noNameOfTheFaceAgain(SkinLeague.class, names);
        for (Class<?> inside : SkinLeague.class.getDeclaredClasses()) {
            Checks.due(inside.getName() + " is static", Modifier.isStatic(inside.getModifiers()), true);
            noNameOfTheFaceAgain(inside, names);
        }
        Checks.end("face");
    }

    private static TreeSet<String> methodsThatShow(TreeSet<String> names) {
        TreeSet<String> shown = new TreeSet<>();
        for (Method method : SkinLeague.class.getDeclaredMethods()) {
            if (!Modifier.isPrivate(method.getModifiers()) && !method.isSynthetic()) {
                names.add(method.getName());
                String types = java.util.Arrays.toString(method.getParameterTypes());
                shown.add(method.getName() + " " + method.getReturnType() + " ("
                        + types.substring(1, types.length() - 1) + ")");
            }
        }
        return shown;
    }

    private static void noNameOfTheFaceAgain(Class<?> in, TreeSet<String> names) {
        for (Method method : in.getDeclaredMethods()) {
            if (Modifier.isPrivate(method.getModifiers()) || in != SkinLeague.class) {
                Checks.due(in.getName() + "." + method.getName() + " has a name of the face",
                        names.contains(method.getName()), false);
            }
        }
    }
}
