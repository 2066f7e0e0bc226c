import java.lang.reflect.Constructor;
import java.lang.reflect.Field;
import java.lang.reflect.Method;
import java.lang.reflect.Modifier;
import java.util.Arrays;
import java.util.Set;
import java.util.TreeSet;

/** The public face is the document's, and nothing but it; private methods bear names of their own. */
public final class FaceTests {
    private static final String[] FACE = {
        "public DotPress()",
        "public boolean DotPress.picture(int,int)",
        "public boolean DotPress.shade(int,int,int)",
        "public boolean DotPress.ramp(int,int,int,int,int,int)",
        "public boolean DotPress.line(int,int,boolean)",
        "public int DotPress.grey(int,int)",
        "public boolean DotPress.table(int)",
        "public boolean DotPress.exchange(int,int)",
        "public int DotPress.number(int)",
        "public long DotPress.cost()",
        "public long DotPress.worth(int,int) throws java.util.NoSuchElementException",
        "public int DotPress.even(int)",
        "public boolean DotPress.back(boolean)",
        "public boolean DotPress.net(int,int)",
        "public int DotPress.dot(int,int,int)",
        "public int DotPress.dots(int,int,int,int,int)",
        "public int DotPress.read(int,int,int,int,int)",
        "public int DotPress.lost()",
        "public int DotPress.rank(int,int)",
        "public long DotPress.beat(int,int,int)",
        "public int DotPress.best()",
        "public int DotPress.count(int)",
        "public static final int DotPress.NONE",
    };

    private static int wrong = 0;

    private static void hold(boolean is, String what) {
        if (!is) {
            wrong++;
            System.out.println(what);
        }
    }

    public static void main(String[] args) {
        Class<?> press = DotPress.class;
        Set<String> face = new TreeSet<>();
        Set<String> names = new TreeSet<>();
        for (Constructor<?> c : press.getDeclaredConstructors()) {
            face.add(c.toString());
        }
        for (Method m : press.getDeclaredMethods()) {
            if (!Modifier.isPrivate(m.getModifiers())) {
                face.add(m.toString());
                names.add(m.getName());
            }
        }
        for (Field f : press.getDeclaredFields()) {
            if (!Modifier.isPrivate(f.getModifiers())) {
                face.add(f.toString());
            }
            hold(!Modifier.isStatic(f.getModifiers()) || Modifier.isFinal(f.getModifiers()), f + " is static, not final");
        }
        hold(face.equals(new TreeSet<>(Arrays.asList(FACE))), "the face is " + face);
        hold(Modifier.isFinal(press.getModifiers()) && Modifier.isPublic(press.getModifiers()), "not public final");
        for (Method m : press.getDeclaredMethods()) {
            boolean hidden = Modifier.isPrivate(m.getModifiers());
            hold(!hidden || !names.contains(m.getName()), m + " bears a public method's name");
        }
        for (Class<?> inside : press.getDeclaredClasses()) {
            hold(Modifier.isStatic(inside.getModifiers()), inside + " is not static");
            hold(!Modifier.isPublic(inside.getModifiers()), inside + " is public");
            for (Method m : inside.getDeclaredMethods()) {
                hold(!names.contains(m.getName()), m + " bears a public method's name");
            }
        }
        System.out.println(wrong == 0 ? "the face is as told" : wrong + " things are not as told");
        if (wrong != 0) {
            System.exit(1);
        }
    }
}
