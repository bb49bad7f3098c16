import java.lang.reflect.Constructor;
import java.lang.reflect.Field;
import java.lang.reflect.Method;
import java.lang.reflect.Modifier;
import java.util.Arrays;
import java.util.TreeSet;

/** The class has the document's face, and nothing else that can be seen from outside. */
public final class FaceTest {
    private static final String[] FACE = {
        "int letter(int)", "int house()", "int thing(int,int)", "int need(int,int,int)", "int hand(int)",
        "int take(int)", "int may()", "int with(int)", "int reach()", "int soonest(int,int)",
        "long mean(int,int)", "long surely(int)", "int ringed()", "int beg(int)", "int nails()",
        "int spare()", "int does(int)", "int ways(int)", "int must(int)", "int halfway(int,int)",
        "long drawer(int,int,int)", "int seeker(int,int)", "int seeks(int)", "int row(int)", "int judge()",
        "int lots(int,int)", "int image()", "int on()", "int count(int)"
    };

    private static int wrong = 0;

    private static void check(boolean holds, String what) {
        if (!holds) {
            wrong++;
            System.out.println("does not hold: " + what);
        }
    }

    /** No method but the face's own bears a name of the face. */
    private static void otherNames(Class<?> c, TreeSet<String> face) {
        for (Method m : c.getDeclaredMethods()) {
            boolean own = c == WithoutThem.class && Modifier.isPublic(m.getModifiers());
            for (String of : face) {
                check(own || !of.contains(" " + m.getName() + "("), "a name of the face again: " + m);
            }
        }
    }

    public static void main(String[] args) {
        Class<?> c = WithoutThem.class;
        check(Modifier.isPublic(c.getModifiers()) && Modifier.isFinal(c.getModifiers()), "public final class");
        TreeSet<String> seen = new TreeSet<>();
        for (Method m : c.getDeclaredMethods()) {
            if (!Modifier.isPrivate(m.getModifiers()) && !m.isSynthetic()) {
                check(Modifier.isPublic(m.getModifiers()) && !Modifier.isStatic(m.getModifiers()), "public: " + m);
                StringBuilder types = new StringBuilder();
                for (Class<?> p : m.getParameterTypes()) {
                    types.append(types.length() == 0 ? "" : ",").append(p);
                }
                seen.add(m.getReturnType() + " " + m.getName() + "(" + types + ")");
            }
        }
        TreeSet<String> due = new TreeSet<>(Arrays.asList(FACE));
        otherNames(c, due);
        check(seen.equals(due), "the face is " + due + ", seen is " + seen);
        Constructor<?>[] made = c.getDeclaredConstructors();
        check(made.length == 1 && Modifier.isPublic(made[0].getModifiers()) && made[0].getParameterCount() == 0,
            "one public constructor without parameters");
        for (Field f : c.getDeclaredFields()) {
            check(Modifier.isPrivate(f.getModifiers()), "private field: " + f);
            check(!Modifier.isStatic(f.getModifiers()) || Modifier.isFinal(f.getModifiers()), "final if static: " + f);
        }
        check(c.getDeclaredClasses().length <= 12, "at most twelve classes inside");
        for (Class<?> inside : c.getDeclaredClasses()) {
            int m = inside.getModifiers();
            otherNames(inside, due);
            check(Modifier.isStatic(m) && !Modifier.isPublic(m) && !Modifier.isProtected(m), "static, not public: " + inside);
            check(inside.getDeclaredFields().length <= 30, "few fields: " + inside);
        }
        System.out.println(wrong == 0 ? "the face is as due" : wrong + " of the face are not as due");
        if (wrong != 0) {
            System.exit(1);
        }
    }
}
