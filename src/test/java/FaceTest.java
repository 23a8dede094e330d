import java.lang.reflect.Constructor;
import java.lang.reflect.Field;
import java.lang.reflect.Method;
import java.lang.reflect.Modifier;
import java.util.Arrays;
import java.util.Set;
import java.util.TreeSet;

/** The class has the document's face and nothing else that is seen from outside. */
final class FaceTest {
    private static final String[] FACE = {
        "int context(int, boolean, long)", "int link(int, boolean, long)", "int type(long, int)",
        "int head(int, int, int, int, int, long, long, long, long)", "int cut(int)", "int poke(int, int)",
        "int take()", "int out(int)", "int squeeze()", "int unfold()", "int told(int)", "int slice(int, int)",
        "int frame(int, int)", "int spoil(int, int, int)", "int put(int)", "int hear(int)", "int pass(int)",
        "int count(int)"};

    private FaceTest() {
    }

    public static void main(String[] args) {
        Class<ShortFrames> c = ShortFrames.class;
        isTrue("public and final", Modifier.isPublic(c.getModifiers()) && Modifier.isFinal(c.getModifiers()));
        Set<String> due = new TreeSet<>(Arrays.asList(FACE));
        Set<String> got = new TreeSet<>();
        Set<String> names = new TreeSet<>();
        for (Method m : c.getDeclaredMethods()) {
            if (!Modifier.isPrivate(m.getModifiers())) {
                got.add(told(m));
                names.add(m.getName());
                isTrue(m + " is public, of an object", Modifier.isPublic(m.getModifiers())
                        && !Modifier.isStatic(m.getModifiers()) && m.getExceptionTypes().length == 0);
            }
        }
        isTrue("the methods are " + due + ", not " + got, due.equals(got));
        for (Method m : c.getDeclaredMethods()) {
            isTrue(m + " does not bear a public name",
                    !Modifier.isPrivate(m.getModifiers()) || !names.contains(m.getName()));
        }
        checkFields(c);
        checkConstructors(c);
        checkInside(c, names);
        Check.same("BAD", ShortFrames.BAD, -1);
        Check.same("NOT", ShortFrames.NOT, -2);
        Check.same("FULL", ShortFrames.FULL, -3);
        Check.end("FaceTest");
    }

    private static void checkFields(Class<?> c) {
        for (Field f : c.getDeclaredFields()) {
            boolean constant = f.getName().equals("BAD") || f.getName().equals("NOT") || f.getName().equals("FULL");
            isTrue(f + " is as public as told", Modifier.isPublic(f.getModifiers()) == constant
                    && (constant || Modifier.isPrivate(f.getModifiers())));
            isTrue(f + " is final, if static",
                    !Modifier.isStatic(f.getModifiers()) || Modifier.isFinal(f.getModifiers()));
        }
    }

    private static void checkConstructors(Class<?> c) {
        Constructor<?>[] all = c.getDeclaredConstructors();
        isTrue("one public constructor without parameters", all.length == 1
                && Modifier.isPublic(all[0].getModifiers()) && all[0].getParameterCount() == 0);
    }

    private static void checkInside(Class<?> c, Set<String> names) {
        Class<?>[] inside = c.getDeclaredClasses();
        isTrue("at most twelve classes", inside.length + 1 <= 12);
        for (Class<?> i : inside) {
            isTrue(i + " is static and not public", Modifier.isStatic(i.getModifiers())
                    && !Modifier.isPublic(i.getModifiers()) && !Modifier.isProtected(i.getModifiers()));
            int fields = 0;
            for (Field f : i.getDeclaredFields()) {
                fields += Modifier.isStatic(f.getModifiers()) ? 0 : 1;
                isTrue(f + " is final, if static",
                        !Modifier.isStatic(f.getModifiers()) || Modifier.isFinal(f.getModifiers()));
            }
            isTrue(i + " has at most twenty fields", fields <= 20);
            for (Method m : i.getDeclaredMethods()) {
                isTrue(m + " has at most seven parameters", m.getParameterCount() <= 7);
                isTrue(m + " does not bear a public name", !names.contains(m.getName()));
            }
        }
    }

    private static String told(Method m) {
        StringBuilder b = new StringBuilder(m.getReturnType().getSimpleName() + " " + m.getName() + "(");
        for (Class<?> p : m.getParameterTypes()) {
            b.append(b.charAt(b.length() - 1) == '(' ? "" : ", ").append(p.getSimpleName());
        }
        return b.append(")").toString();
    }

    private static void isTrue(String what, boolean is) {
        Check.same(what, is ? 1 : 0, 1);
    }
}
