import java.lang.reflect.Constructor;
import java.lang.reflect.Field;
import java.lang.reflect.Method;
import java.lang.reflect.Modifier;
import java.util.TreeSet;

/** The public face, and rule 1 of LANGUAGE.md: nothing else of the class is to be seen. */
public final class FaceTest {
    public static void main(String[] args) {
        TreeSet<String> face = new TreeSet<>();
        for (Method method : MailGuard.class.getDeclaredMethods()) {
            if (!Modifier.isPrivate(method.getModifiers())) {
                face.add(method.toString());
            }
        }
        for (Constructor<?> constructor : MailGuard.class.getDeclaredConstructors()) {
            face.add(constructor.toString());
        }
        for (Field field : MailGuard.class.getDeclaredFields()) {
            if (!Modifier.isPrivate(field.getModifiers())) {
                face.add(field.toString());
            }
        }
        TreeSet<String> want = new TreeSet<>();
        String argument = "java.lang.IllegalArgumentException";
        String state = "java.lang.IllegalStateException";
        want.add("public static final int MailGuard.NONE");
        want.add("public MailGuard()");
        want.add("public boolean MailGuard.type(long)");
        want.add("public void MailGuard.wipe()");
        want.add("public int MailGuard.length()");
        want.add("public int MailGuard.row(int) throws " + argument + "," + state);
        want.add("public boolean MailGuard.drop(int)");
        want.add("public int MailGuard.check(int) throws " + argument);
        want.add("public int MailGuard.latest(int)");
        want.add("public int MailGuard.asked(int)");
        want.add("public int MailGuard.policy(int) throws " + argument + "," + state);
        want.add("public int MailGuard.rows(int)");
        Probe.due("the face", face, want);
        Probe.due("the class", MailGuard.class.getModifiers(), Modifier.PUBLIC | Modifier.FINAL);
        Probe.due("NONE", MailGuard.NONE, -1);
        Probe.end();
    }
}
