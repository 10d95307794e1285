import java.lang.reflect.Constructor;
import java.lang.reflect.Field;
import java.lang.reflect.Method;
import java.lang.reflect.Modifier;
import java.util.Arrays;
import java.util.Set;
import java.util.TreeSet;

/** The class shows the document's face and nothing else. */
public final class FaceTest {
    private static final Check CHECK = new Check("the public face");

    public static void main(String[] args) {
        publicAndFinal();
        members();
        none();
        classesInside();
        CHECK.end();
    }

    private static void publicAndFinal() {
        CHECK.holds("public final class ReportWriter");
        CHECK.due("its modifiers", ReportWriter.class.getModifiers(), Modifier.PUBLIC | Modifier.FINAL);
    }

    private static void members() {
        CHECK.holds("The public face");
        Set<String> want = new TreeSet<>(Arrays.asList(
                "public static final int NONE", "public ReportWriter(int,int,int)",
                "public int group(int,int)", "public int line(int,int,boolean)", "public int sum(int,int,int)",
                "public int control(int)", "public int set(int,int)", "public int initiate()",
                "public int generate(int,long)", "public int terminate()",
                "public int at(int,int) throws ArrayIndexOutOfBoundsException", "public int lines()",
                "public long total(int)", "public int counter(int)", "public int suppress(int)",
                "public int indicate(int)"));
        Set<String> got = membersThatShow(ReportWriter.class);
        if (!got.equals(want)) {
            System.out.println("the face is " + got);
        }
        CHECK.due("the face is the document's", got.equals(want) ? 1 : 0, 1);
    }

    private static void none() {
        CHECK.holds("public static final int NONE = -1;");
        CHECK.due("NONE", ReportWriter.NONE, -1);
    }

    private static void classesInside() {
        CHECK.holds("The public face", "no class inside is shown");
        for (Class<?> inside : ReportWriter.class.getDeclaredClasses()) {
            int shown = inside.getModifiers() & (Modifier.PUBLIC | Modifier.PROTECTED);
            CHECK.due(inside.getSimpleName() + " is public or protected", shown, 0);
        }
    }

    private static Set<String> membersThatShow(Class<?> face) {
        Set<String> got = new TreeSet<>();
        for (Field f : face.getDeclaredFields()) {
            if (!Modifier.isPrivate(f.getModifiers())) {
                got.add(Modifier.toString(f.getModifiers()) + " " + f.getType() + " " + f.getName());
            }
        }
        for (Constructor<?> c : face.getDeclaredConstructors()) {
            if (!Modifier.isPrivate(c.getModifiers())) {
                got.add(Modifier.toString(c.getModifiers()) + " ReportWriter" + types(c.getParameterTypes()));
            }
        }
        for (Method m : face.getDeclaredMethods()) {
            if (!Modifier.isPrivate(m.getModifiers())) {
                got.add(Modifier.toString(m.getModifiers()) + " " + m.getReturnType() + " " + m.getName()
                        + types(m.getParameterTypes()) + exceptions(m));
            }
        }
        return got;
    }

    private static String types(Class<?>[] types) {
        StringBuilder b = new StringBuilder("(");
        for (int i = 0; i < types.length; i++) {
            b.append(i == 0 ? "" : ",").append(types[i]);
        }
        return b.append(")").toString();
    }

    private static String exceptions(Method m) {
        StringBuilder b = new StringBuilder();
        for (Class<?> e : m.getExceptionTypes()) {
            b.append(" throws ").append(e.getSimpleName());
        }
        return b.toString();
    }
}
