import java.lang.reflect.Constructor;
import java.lang.reflect.Field;
import java.lang.reflect.Method;
import java.lang.reflect.Modifier;
import java.nio.charset.StandardCharsets;
import java.nio.file.Files;
import java.nio.file.Path;
import java.util.Arrays;
import java.util.Set;
import java.util.TreeSet;
import java.util.regex.Matcher;
import java.util.regex.Pattern;

/** The public face, and what of LANGUAGE.md can be seen from the class and its text. Runs in the project's folder. */
public final class FaceTests {
    private static final Set<String> FACE = new TreeSet<>(Arrays.asList(
        "int size(int)", "int solid(int)", "int join(int, int, int)", "int moved(int)", "int turned(int)",
        "int weight(int)", "boolean inside(int, int, int, int)", "int top(int, int, int)",
        "int spans(int, int, int)", "int span(int, int)", "long within(int, int)"));
    private static final String[] RULED_OUT = {"throw", "throws", "try", "catch", "finally", "synchronized", "assert",
        "package", "protected", "native", "volatile", "hashCode", "Object", "\\w+Exact",
        "import (?!java\\.util\\.(ArrayList|List|Arrays|Iterator);).*", "System(?!\\.arraycopy)"};
    private static int wrong = 0;

    private static void due(String what, boolean holds) {
        if (!holds) {
            wrong++;
            System.out.println("not as due: " + what);
        }
    }

    private static void methods() {
        Set<String> found = new TreeSet<>();
        Set<String> publicNames = new TreeSet<>();
        for (Method m : SpanSolids.class.getDeclaredMethods()) {
            if (!m.isSynthetic() && Modifier.isPublic(m.getModifiers())) {
                String parameters = Arrays.toString(m.getParameterTypes()).replace("[", "(").replace("]", ")");
                found.add(m.getReturnType() + " " + m.getName() + parameters);
                publicNames.add(m.getName());
                due(m + " is an object's method", !Modifier.isStatic(m.getModifiers()));
            }
        }
        due("the methods are those of the document: " + found, found.equals(FACE));
        for (Method m : SpanSolids.class.getDeclaredMethods()) {
            if (!m.isSynthetic() && !Modifier.isPublic(m.getModifiers())) {
                due(m + " is private", Modifier.isPrivate(m.getModifiers()));
                due(m + " has a name of its own", !publicNames.contains(m.getName()));
            }
        }
    }

    private static void classAndFields() {
        due("public and final", (SpanSolids.class.getModifiers() & (Modifier.PUBLIC | Modifier.FINAL))
            == (Modifier.PUBLIC | Modifier.FINAL));
        Constructor<?>[] constructors = SpanSolids.class.getDeclaredConstructors();
        due("one constructor", constructors.length == 1 && constructors[0].getParameterCount() == 0
            && Modifier.isPublic(constructors[0].getModifiers()));
        fields(SpanSolids.class);
        for (Field f : SpanSolids.class.getDeclaredFields()) {
            due(f + " is private", f.isSynthetic() || Modifier.isPrivate(f.getModifiers()));
        }
        due("some twelve classes", SpanSolids.class.getDeclaredClasses().length <= 11);
        for (Class<?> c : SpanSolids.class.getDeclaredClasses()) {
            due(c + " is static", Modifier.isStatic(c.getModifiers()));
            due(c + " is not public", !Modifier.isPublic(c.getModifiers()));
            fields(c);
        }
    }

    private static void fields(Class<?> c) {
        int count = 0;
        for (Field f : c.getDeclaredFields()) {
            boolean constant = Modifier.isStatic(f.getModifiers());
            due(f + " is final if it is static", !constant || Modifier.isFinal(f.getModifiers()));
            count += constant ? 0 : 1;
        }
        due(c + " has some twenty fields", count <= 20);
        for (Method m : c.getDeclaredMethods()) {
            due(m + " takes at most seven", m.getParameterCount() <= 7);
        }
    }

    private static void text() throws java.io.IOException {
        String source = Files.readString(Path.of("src/main/java/SpanSolids.java"), StandardCharsets.UTF_8);
        String code = source.replaceAll("(?s)/\\*.*?\\*/", "").replaceAll("//[^\n]*", "");
        for (String word : RULED_OUT) {
            Matcher m = Pattern.compile("(?<!\\w)" + word + "(?!\\w)").matcher(code);
            due("no " + word + " in the class", !m.find());
        }
        due("no lambda and no method reference", !code.contains("->") && !code.contains("::"));
        for (int i = 0; i < source.length(); i++) {
            due("plain letters alone", source.charAt(i) < 128);
        }
    }

    public static void main(String[] args) throws java.io.IOException {
        methods();
        classAndFields();
        text();
        System.out.println(wrong == 0 ? "the face is as due" : wrong + " things are not as due");
        if (wrong != 0) {
            System.exit(1);
        }
    }
}
