import java.lang.reflect.Constructor;
import java.lang.reflect.Field;
import java.lang.reflect.Method;
import java.lang.reflect.Modifier;
import java.util.TreeSet;

/** The public face of the document, and no other member that is not private. */
public final class FaceTest {
    private static final String[] FACE = {
        "int put(int, int, int, int)", "int handler(int, int, int, int)", "int clear()", "boolean start()",
        "int step(int)", "int word(int)", "long wide(int)", "double single(int)", "double real(int)",
        "int kind(int)", "int size(int)", "long cell(int, int)", "double point(int, int)",
        "long field(int, int)", "boolean same(int, int)", "int told(int)", "int state(int)",
    };
    private static int wrong = 0;

    private static void need(boolean fine, String what) {
        if (!fine) {
            wrong++;
            System.out.println("not so: " + what);
        }
    }

    private static String told(Method m) {
        StringBuilder s = new StringBuilder(m.getReturnType().getSimpleName() + " " + m.getName() + "(");
        for (int k = 0; k < m.getParameterCount(); k++) {
            s.append(k == 0 ? "" : ", ").append(m.getParameterTypes()[k].getSimpleName());
        }
        return s.append(")").toString();
    }

    public static void main(String[] args) {
        TreeSet<String> due = new TreeSet<>(java.util.List.of(FACE));
        TreeSet<String> names = new TreeSet<>();
        TreeSet<String> seen = new TreeSet<>();
        for (String f : FACE) names.add(f.substring(f.indexOf(' ') + 1, f.indexOf('(')));
        need(Modifier.isPublic(FaultLoom.class.getModifiers()), "the class is public");
        need(Modifier.isFinal(FaultLoom.class.getModifiers()), "the class is final");
        for (Method m : FaultLoom.class.getDeclaredMethods()) {
            if (Modifier.isPublic(m.getModifiers())) seen.add(told(m));
            else need(Modifier.isPrivate(m.getModifiers()) && !names.contains(m.getName()), "private: " + m);
            if (Modifier.isPublic(m.getModifiers())) need(!Modifier.isStatic(m.getModifiers()), "not static: " + m);
        }
        need(seen.equals(due), "the public methods are those of the document: " + seen);
        for (Field f : FaultLoom.class.getDeclaredFields()) {
            need(Modifier.isPrivate(f.getModifiers()), "private: " + f);
            need(!Modifier.isStatic(f.getModifiers()) || Modifier.isFinal(f.getModifiers()), "final: " + f);
        }
        Constructor<?>[] made = FaultLoom.class.getDeclaredConstructors();
        need(made.length == 1 && made[0].getParameterCount() == 0 && Modifier.isPublic(made[0].getModifiers()),
            "one public constructor without parameters");
        for (Class<?> c : FaultLoom.class.getDeclaredClasses()) {
            need(Modifier.isStatic(c.getModifiers()) && !Modifier.isPublic(c.getModifiers())
                && !Modifier.isProtected(c.getModifiers()), "static and not public: " + c);
            need(c.getDeclaredFields().length <= 20, "at most twenty fields: " + c);
            for (Method m : c.getDeclaredMethods()) need(!names.contains(m.getName()), "another name than the face's: " + m);
        }
        System.out.println(wrong == 0 ? "the face is as due" : wrong + " things are not as due");
        if (wrong != 0) System.exit(1);
    }
}
