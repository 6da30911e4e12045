import java.lang.reflect.Constructor;
import java.lang.reflect.Field;
import java.lang.reflect.Method;
import java.lang.reflect.Modifier;
import java.util.ArrayList;
import java.util.List;
import java.util.TreeSet;

/** The public face: what the document tells, and nothing else. */
public final class FaceTest {
    private static final List<String> METHODS = List.of(
        "boolean feed(int, int)", "boolean set(int, int)", "boolean trim(int)", "int length()", "int byteAt(int)",
        "int hash(int, int)", "int accept()", "int count()", "int field(int, int)",
        "boolean within(int, boolean, int, boolean)", "int recode(int)", "boolean link(int)", "boolean unlink()",
        "int links()", "int check(int, int, int)", "void reset()");

    private static int wrong = 0;

    public static void main(String[] args) {
        Class<CertificatePath> face = CertificatePath.class;
        same("class", modifiers(face.getModifiers()), "public final");
        methods(face);
        fields(face);
        Constructor<?>[] constructors = face.getDeclaredConstructors();
        same("constructors", String.valueOf(constructors.length), "1");
        same("constructor", constructors[0].toString(), "public CertificatePath()");
        for (Class<?> inside : face.getDeclaredClasses()) {
            int m = inside.getModifiers();
            same(inside.getName(), Modifier.isStatic(m) && !Modifier.isPublic(m) && !Modifier.isProtected(m) ? "" : "open", "");
        }
        System.out.println(wrong == 0 ? "all answers are as due" : wrong + " answers are not as due");
        if (wrong != 0) {
            System.exit(1);
        }
    }

    private static String modifiers(int m) {
        return Modifier.toString(m);
    }

    private static void same(String what, String got, String want) {
        if (!got.equals(want)) {
            wrong++;
            System.out.println(what + " is " + got + ", due is " + want);
        }
    }

    private static void methods(Class<?> face) {
        TreeSet<String> open = new TreeSet<>();
        TreeSet<String> names = new TreeSet<>();
        for (Method m : face.getDeclaredMethods()) {
            if (!Modifier.isPrivate(m.getModifiers())) {
                same(m.getName(), modifiers(m.getModifiers()), "public");
                open.add(told(m));
                names.add(m.getName());
            }
        }
        same("methods", open.toString(), new TreeSet<>(METHODS).toString());
        List<Class<?>> all = new ArrayList<>(List.of(face.getDeclaredClasses()));
        all.add(face);
        for (Class<?> c : all) {
            for (Method m : c.getDeclaredMethods()) {
                boolean hidden = c != face || Modifier.isPrivate(m.getModifiers());
                same(c.getName() + "." + m.getName(), hidden && names.contains(m.getName()) ? "a name of the face" : "", "");
            }
        }
    }

    private static String told(Method m) {
        StringBuilder text = new StringBuilder(m.getReturnType() + " " + m.getName() + "(");
        for (Class<?> type : m.getParameterTypes()) {
            text.append(text.charAt(text.length() - 1) == '(' ? "" : ", ").append(type);
        }
        return text.append(")").toString();
    }

    private static void fields(Class<?> face) {
        TreeSet<String> open = new TreeSet<>();
        for (Field f : face.getDeclaredFields()) {
            if (!Modifier.isPrivate(f.getModifiers())) {
                open.add(f.toString());
            }
            if (Modifier.isStatic(f.getModifiers())) {
                same(f.getName(), Modifier.isFinal(f.getModifiers()) ? "final" : "open", "final");
            }
        }
        same("fields", open.toString(), "[public static final int CertificatePath.FULL, public static final int CertificatePath.NONE]");
    }
}
