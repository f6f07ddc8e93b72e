import java.lang.reflect.Constructor;
import java.lang.reflect.Field;
import java.lang.reflect.Method;
import java.lang.reflect.Modifier;
import java.util.TreeSet;

/** The public face: what the document lists and nothing else, in a final class. */
public final class FaceTest {
    private static final Due DUE = new Due("FaceTest");
    private static final TreeSet<String> NAMES = new TreeSet<>();

    public static void main(String[] args) {
        Class<?> face = TowerFoot.class;
        for (String[] call : Calls.FACE) {
            NAMES.add(call[0]);
        }
        DUE.due("public final", face.getModifiers(), Modifier.PUBLIC | Modifier.FINAL);
        DUE.due("NONE", TowerFoot.NONE, -1);
        methods(face);
        fields(face);
        Constructor<?>[] made = face.getDeclaredConstructors();
        DUE.due("constructors", made.length, 1);
        DUE.due("its numbers", made[0].getParameterCount(), 0);
        DUE.due("it is public", made[0].getModifiers(), Modifier.PUBLIC);
        for (Class<?> inside : face.getDeclaredClasses()) {
            boolean hidden = !Modifier.isPublic(inside.getModifiers())
                    && !Modifier.isProtected(inside.getModifiers());
            DUE.due(inside + " is hidden", hidden ? 1 : 0, 1);
            DUE.due(inside + " is static", Modifier.isStatic(inside.getModifiers()) ? 1 : 0, 1);
            for (Method m : inside.getDeclaredMethods()) {
                DUE.due(m + " bears a public name", NAMES.contains(m.getName()) ? 1 : 0, 0);
            }
            DUE.due(inside + "'s fields", inside.getDeclaredFields().length <= 20 ? 1 : 0, 1);
        }
        DUE.due("classes", face.getDeclaredClasses().length < 12 ? 1 : 0, 1);
        DUE.end();
    }

    private static void methods(Class<?> face) {
        TreeSet<String> want = new TreeSet<>();
        for (String[] call : Calls.FACE) {
            String answer = call[0].equals("share") ? "long " : "int ";
            want.add(answer + call[0] + "/" + call[1].length());
        }
        TreeSet<String> got = new TreeSet<>();
        for (Method m : face.getDeclaredMethods()) {
            if (Modifier.isPublic(m.getModifiers())) {
                got.add(m.getReturnType() + " " + m.getName() + "/" + m.getParameterCount());
                for (Class<?> number : m.getParameterTypes()) {
                    DUE.due(m + " takes ints", number == int.class ? 1 : 0, 1);
                }
            } else {
                DUE.due(m + " is private", Modifier.isPrivate(m.getModifiers()) ? 1 : 0, 1);
                DUE.due(m + " bears a public name", NAMES.contains(m.getName()) ? 1 : 0, 0);
            }
        }
        if (!got.equals(want)) {
            System.out.println("methods " + got + ", due are " + want);
        }
        DUE.due("methods as due", got.equals(want) ? 1 : 0, 1);
        DUE.due("how many", want.size(), 40);
    }

    private static void fields(Class<?> face) {
        int shown = 0;
        for (Field f : face.getDeclaredFields()) {
            shown += Modifier.isPrivate(f.getModifiers()) ? 0 : 1;
            if (Modifier.isStatic(f.getModifiers())) {
                DUE.due(f + " is final", Modifier.isFinal(f.getModifiers()) ? 1 : 0, 1);
            }
        }
        DUE.due("shown fields", shown, 1);
    }
}
