import java.io.IOException;
import java.lang.reflect.Field;
import java.lang.reflect.Method;
import java.lang.reflect.Modifier;
import java.nio.charset.StandardCharsets;
import java.nio.file.Files;
import java.nio.file.Path;
import java.util.ArrayList;
import java.util.List;
import java.util.Set;
import java.util.TreeSet;
import java.util.regex.Matcher;
import java.util.regex.Pattern;

/** Those rules of LANGUAGE.md that can be seen in the class and its file. */
public final class LanguageTest {
    private static final Path FILE = Path.of("src/main/java/MailGuard.java");
    private static final int CLASSES = 12;
    private static final int FIELDS = 20;
    private static final int PARAMETERS = 7;
    private static final int LINES = 60;

    public static void main(String[] args) throws IOException {
        List<Class<?>> classes = new ArrayList<>();
        collect(MailGuard.class, classes);
        Probe.sentence("rule 11: the file has at most some twelve classes");
        Probe.due("classes", classes.size() <= CLASSES, true);
        for (Class<?> one : classes) {
            form(one);
            fields(one);
            methods(one);
        }
        String source = Files.readString(FILE, StandardCharsets.ISO_8859_1);
        String code = withoutCommentsAndTexts(source);
        words(code);
        lengths(code);
        objects(code);
        Probe.end();
    }

    private static void collect(Class<?> outer, List<Class<?>> classes) {
        classes.add(outer);
        for (Class<?> inside : outer.getDeclaredClasses()) {
            collect(inside, classes);
        }
    }

    private static void form(Class<?> one) {
        Probe.sentence("rules 1 and 2: the classes inside are private or package-visible and static");
        if (one != MailGuard.class) {
            int shown = one.getModifiers() & (Modifier.PUBLIC | Modifier.PROTECTED);
            Probe.due("public or protected: " + one, shown, 0);
            Probe.due("static: " + one, Modifier.isStatic(one.getModifiers()), true);
        }
        Probe.sentence("rule 6: no exception classes of your own");
        Probe.due("an exception: " + one, Throwable.class.isAssignableFrom(one), false);
    }

    private static void fields(Class<?> one) {
        Set<Class<?>> constants = Set.of(int.class, long.class, boolean.class, char.class, String.class,
            int[].class, long[].class, char[].class, byte[].class);
        int own = 0;
        for (Field field : one.getDeclaredFields()) {
            if (Modifier.isStatic(field.getModifiers())) {
                Probe.sentence("rule 5: static fields are final: constants");
                Probe.due("final: " + field, Modifier.isFinal(field.getModifiers()), true);
                Probe.due("the type of " + field, constants.contains(field.getType()), true);
            } else {
                own++;
            }
        }
        Probe.sentence("rule 11: a class has some twenty fields beside its constants");
        Probe.due("fields of " + one, own <= FIELDS, true);
    }

    private static void methods(Class<?> one) {
        TreeSet<String> face = new TreeSet<>();
        for (Method method : MailGuard.class.getDeclaredMethods()) {
            if (Modifier.isPublic(method.getModifiers())) {
                face.add(method.getName());
            }
        }
        for (Method method : one.getDeclaredMethods()) {
            Probe.sentence("rule 1: no private method bears the name of a public one");
            boolean shown = one == MailGuard.class && Modifier.isPublic(method.getModifiers());
            Probe.due("a name of the face: " + method, !shown && face.contains(method.getName()), false);
            Probe.sentence("rule 2: no lambda");
            Probe.due("made by the compiler: " + method, method.isSynthetic(), false);
            Probe.sentence("rule 11: a method takes at most seven parameters");
            Probe.due("parameters of " + method, method.getParameterCount() <= PARAMETERS, true);
        }
    }

    /** So that only code is looked at; the lines stay as many as they are. */
    private static String withoutCommentsAndTexts(String source) {
        String code = source.replaceAll("\"[^\"\n]*\"", "\"\"").replaceAll("//[^\n]*", "");
        Matcher comment = Pattern.compile("/\\*.*?\\*/", Pattern.DOTALL).matcher(code);
        return comment.replaceAll(found -> found.group().replaceAll("[^\n]", ""));
    }

    private static void words(String code) {
        Probe.sentence("rules 2 to 6 and 13: what they rule out");
        String[] none = {"\\bpackage\\b", "\\bimport\\b", "->", "::", "\\bsynchronized\\b", "\\bassert\\b", "\\btry\\b",
            "\\bfinally\\b", "\\bcatch\\b", "\\bstatic \\{", "\\bequals\\b", "\\bhashCode\\b", "\\btoString\\b", "\\bThread\\b",
            "\\bSystem\\b", "\\bjava\\.", "\\bObject\\b", "\\bvar\\b", "Exact\\b", "\\bdouble\\b", "\\bfloat\\b", "while \\(true\\)",
            "for \\(;;", "[^\\x00-\\x7e]"};
        for (String word : none) {
            Probe.due("'" + word + "' in the file", Pattern.compile(word).matcher(code).find(), false);
        }
        Matcher thrown = Pattern.compile("\\bthrow\\b[^;]*;").matcher(code);
        while (thrown.find()) {
            String form = "throw new Illegal(Argument|State)Exception\\(\\);";
            Probe.due(thrown.group(), thrown.group().matches(form), true);
        }
    }

    /** A method begins with its head and ends with the brace that stands as far in. */
    private static void lengths(String code) {
        Probe.sentence("rule 11: methods stay short (some sixty lines)");
        String[] lines = code.split("\n");
        Pattern head = Pattern.compile("( {4}| {8})\\w[^=;]*\\) (throws [^{]*)?\\{");
        for (int i = 0; i < lines.length; i++) {
            Matcher found = head.matcher(lines[i]);
            if (found.matches()) {
                int end = i;
                while (end < lines.length && !lines[end].equals(found.group(1) + "}")) {
                    end++;
                }
                Probe.due("lines of" + lines[i], end - i < LINES, true);
            }
        }
    }

    /** All that is made is made with the object, so that no call takes room. */
    private static void objects(String code) {
        Probe.sentence("rule 12: what a run makes is counted: keep it small");
        String field = " *private final [\\w\\[\\]]+ \\w+ = new \\w+[(\\[].*";
        String slot = " *(chars|rows\\[k\\]|levels\\[depth\\]) = new (char\\[limit\\]|Row\\(\\)|Level\\(\\));";
        for (String line : code.split("\n")) {
            if (Pattern.compile("\\bnew\\b").matcher(line).find() && !line.contains("throw new ")) {
                Probe.due(line.trim(), line.matches(field) || line.matches(slot), true);
            }
        }
    }
}
