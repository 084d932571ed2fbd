import java.lang.reflect.Constructor;
import java.lang.reflect.Field;
import java.lang.reflect.Method;
import java.lang.reflect.Modifier;
import java.util.Set;
import java.util.TreeSet;

/** The class shows what the document's public face has, and nothing else. */
public final class FaceTest {
    private static final String[] METHODS = {
        "int rider(int,int,int)", "int lean(int,int)", "int of(int,int)", "int at(int,int)",
        "int gains(int,int,int)", "int type(int)", "int slide()", "int count(int)",
        "int ride(int)", "int wax(int,int)", "int hammer(int,int)", "int up(int)",
        "int drift(int)", "int undo()", "int seed(int)",
        "int speed(int,int)", "int ends(int)", "int fast(int,int)", "int who(int)",
        "int waxes(int,int)", "int may(int,int)", "int weight(int)", "int bump(int)",
        "int order(int)", "long rain(int,int,int)", "int image()", "int restore()",
        "int clocked(int,int,int,int,int,int,int)", "int film(int,int,int,int,int)",
        "int sheet(int,int,int)", "int drop(int)", "int item(int,int,int,long)",
        "int copy(int,int,int,int,int)"
    };
    private static final String[] CONSTANTS = {"BAD", "NOT", "FULL", "NONE", "NULL", "CAST", "INDEX", "SIZE"};

    private static int wrong = 0;

    private static void fault(String what) {
        wrong++;
        System.out.println(what);
    }

    private static String signature(Method m) {
        StringBuilder text = new StringBuilder(m.getReturnType().getName() + " " + m.getName() + "(");
        Class<?>[] types = m.getParameterTypes();
        for (int i = 0; i < types.length; i++) {
            text.append(i == 0 ? "" : ",").append(types[i].getName());
        }
        return text.append(")").toString();
    }

    private static Set<String> names() {
        Set<String> names = new TreeSet<>();
        for (String s : METHODS) {
            names.add(s.substring(s.indexOf(' ') + 1, s.indexOf('(')));
        }
        return names;
    }

    private static void methods() {
        Set<String> due = new TreeSet<>(Set.of(METHODS));
        for (Method m : HelterSlide.class.getDeclaredMethods()) {
            boolean isPublic = Modifier.isPublic(m.getModifiers());
            if (isPublic && !due.remove(signature(m))) {
                fault("not in the face: " + signature(m));
            }
            if (!isPublic && (!Modifier.isPrivate(m.getModifiers()) || names().contains(m.getName()))) {
                fault("not private, or with a public one's name: " + signature(m));
            }
        }
        for (String missing : due) {
            fault("missing: " + missing);
        }
    }

    private static void fields() {
        Set<String> due = new TreeSet<>(Set.of(CONSTANTS));
        for (Field f : HelterSlide.class.getDeclaredFields()) {
            int m = f.getModifiers();
            boolean constant = Modifier.isPublic(m) && Modifier.isStatic(m) && Modifier.isFinal(m)
                    && f.getType() == int.class && due.remove(f.getName());
            if (!constant && !Modifier.isPrivate(m)) {
                fault("not in the face: " + f);
            }
        }
        for (String missing : due) {
            fault("missing: " + missing);
        }
    }

    private static void theRest() {
        int m = HelterSlide.class.getModifiers();
        if (!Modifier.isPublic(m) || !Modifier.isFinal(m)) {
            fault("not public and final");
        }
        Constructor<?>[] made = HelterSlide.class.getDeclaredConstructors();
        if (made.length != 1 || !Modifier.isPublic(made[0].getModifiers()) || made[0].getParameterCount() != 0) {
            fault("not one public constructor without arguments");
        }
        for (Class<?> inside : HelterSlide.class.getDeclaredClasses()) {
            int im = inside.getModifiers();
            if (Modifier.isPublic(im) || Modifier.isProtected(im) || !Modifier.isStatic(im)) {
                fault("a class inside that is not hidden or not static: " + inside);
            }
            for (Method method : inside.getDeclaredMethods()) {
                if (names().contains(method.getName())) {
                    fault("a public one's name inside: " + method);
                }
            }
        }
    }

    public static void main(String[] args) {
        methods();
        fields();
        theRest();
        if (wrong != 0) {
            System.exit(1);
        }
    }
}
