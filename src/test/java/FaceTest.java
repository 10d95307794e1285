import java.lang.reflect.Constructor;
import java.lang.reflect.Field;
import java.lang.reflect.Method;
import java.lang.reflect.Modifier;
import java.util.Arrays;
import java.util.Set;
import java.util.TreeSet;

/** The class shows the document's face and nothing else. */
public final class FaceTest {
    private static final Check CHECK = new Check("the public face");

    public static void main(String[] args) {
        Class<?> face = ReportWriter.class;
        CHECK.due("public and final", face.getModifiers(), Modifier.PUBLIC | Modifier.FINAL);
        Set<String> want = new TreeSet<>(Arrays.asList(
                "NONE", "ReportWriter(int,int,int)",
                "int group(int,int)", "int line(int,int,boolean)", "int sum(int,int,int)", "int control(int)",
                "int set(int,int)", "int initiate()", "int generate(int,long)", "int terminate()", "int at(int,int)",
                "int lines()", "long total(int)", "int counter(int)", "int suppress(int)", "int indicate(int)"));
        Set<String> got = members(face);
        if (!got.equals(want)) {
            System.out.println("the face is " + got);
        }
        CHECK.due("the face is the document's", got.equals(want) ? 1 : 0, 1);
        CHECK.due("NONE", ReportWriter.NONE, -1);
        CHECK.end();
    }

    private static Set<String> members(Class<?> face) {
        Set<String> got = new TreeSet<>();
        for (Field f : face.getDeclaredFields()) {
            if (!Modifier.isPrivate(f.getModifiers())) {
                got.add(f.getName());
            }
        }
        for (Constructor<?> c : face.getDeclaredConstructors()) {
            if (!Modifier.isPrivate(c.getModifiers())) {
                got.add("ReportWriter" + types(c.getParameterTypes()));
            }
        }
        for (Method m : face.getDeclaredMethods()) {
            if (!Modifier.isPrivate(m.getModifiers())) {
                got.add(m.getReturnType() + " " + m.getName() + types(m.getParameterTypes()));
            }
        }
        return got;
    }

    private static String types(Class<?>[] types) {
        StringBuilder b = new StringBuilder("(");
        for (int i = 0; i < types.length; i++) {
            b.append(i == 0 ? "" : ",").append(types[i]);
        }
        return b.append(")").toString();
    }
}
