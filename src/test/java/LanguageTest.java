import java.io.IOException;
import java.lang.reflect.Constructor;
import java.lang.reflect.Field;
import java.lang.reflect.Method;
import java.lang.reflect.Modifier;
import java.nio.file.Files;
import java.nio.file.Path;
import java.util.ArrayList;
import java.util.List;
import java.util.TreeSet;
import java.util.regex.Matcher;
import java.util.regex.Pattern;

/** What of LANGUAGE.md can be seen from outside: the face, the words that may not be used, sizes. */
public final class LanguageTest {
    private static final String FACE = "[boolean type(long,int), int column(int,int), int count(int), "
        + "int letter(int,int), int list(int,int), int name(int,int), int node(int,int), int read(), int table(), "
        + "long value(int)]";

    public static void main(String[] args) throws IOException {
        face();
        fields();
        String source = Files.readString(Path.of("src/main/java/SqlReader.java"));
        String code = withoutTexts(source);
        words(code);
        methods(code);
        Probe.finish("Language");
    }

    private static void face() {
        TreeSet<String> face = new TreeSet<>();
        TreeSet<String> names = new TreeSet<>();
        for (Method method : SqlReader.class.getDeclaredMethods()) {
            if (Modifier.isPublic(method.getModifiers())) {
                List<String> types = new ArrayList<>();
                for (Class<?> type : method.getParameterTypes()) {
                    types.add(type.toString());
                }
                face.add(method.getReturnType() + " " + method.getName() + "(" + String.join(",", types) + ")");
                names.add(method.getName());
            }
        }
        Probe.due("face", face.toString(), FACE);
        for (Method method : SqlReader.class.getDeclaredMethods()) {
            boolean hidden = Modifier.isPrivate(method.getModifiers()) && !names.contains(method.getName());
            boolean open = Modifier.isPublic(method.getModifiers());
            Probe.due("method " + method.getName(), hidden || open ? 1 : 0, 1);
        }
        Constructor<?>[] constructors = SqlReader.class.getConstructors();
        Probe.due("constructors", constructors.length + " " + constructors[0].getParameterCount(), "1 0");
        int modifiers = SqlReader.class.getModifiers();
        Probe.due("final", Modifier.isFinal(modifiers) && Modifier.isPublic(modifiers) ? 1 : 0, 1);
        for (Class<?> inside : SqlReader.class.getDeclaredClasses()) {
            Probe.due("static " + inside, Modifier.isStatic(inside.getModifiers()) ? 1 : 0, 1);
            for (Method method : inside.getDeclaredMethods()) {
                Probe.due("name of " + method, names.contains(method.getName()) ? 1 : 0, 0);
            }
        }
        Probe.due("classes", SqlReader.class.getDeclaredClasses().length <= 12 ? 1 : 0, 1);
    }

    private static void fields() {
        for (Field field : SqlReader.class.getDeclaredFields()) {
            Probe.due("private " + field, Modifier.isPrivate(field.getModifiers()) ? 1 : 0, 1);
        }
        List<Class<?>> classes = new ArrayList<>(List.of(SqlReader.class.getDeclaredClasses()));
        classes.add(SqlReader.class);
        for (Class<?> each : classes) {
            int own = 0;
            for (Field field : each.getDeclaredFields()) {
                boolean constant = Modifier.isStatic(field.getModifiers());
                Probe.due("final " + field, !constant || Modifier.isFinal(field.getModifiers()) ? 1 : 0, 1);
                own += constant ? 0 : 1;
            }
            Probe.due("fields of " + each, own <= 20 ? 1 : 0, 1);
        }
    }

    /** The program without its comments, and with its texts and characters empty. */
    private static String withoutTexts(String source) {
        return source.replaceAll("(?s)/\\*.*?\\*/", "").replaceAll("'(\\\\.|[^'])'", "0")
            .replaceAll("\"(\\\\.|[^\"])*\"", "\"\"").replaceAll("//[^\n]*", "");
    }

    private static void words(String code) {
        String[] wrongs = {"throw", "throws", "try", "catch", "finally", "synchronized", "assert", "package",
            "Exception", "Error", "Object", "String\\[\\]", "double", "float", "hashCode", "toString", "equals",
            "Exact", "Thread", "->", "::", "@", "volatile", "native", "instanceof", "getClass"};
        for (String wrong : wrongs) {
            boolean word = Character.isLetter(wrong.charAt(0)) && !wrong.endsWith("]");
            Matcher matcher = Pattern.compile(word ? "\\b" + wrong + "\\b" : wrong).matcher(code);
            Probe.due("no " + wrong, matcher.find() ? 1 : 0, 0);
        }
        Matcher imports = Pattern.compile("import ([^;]*);").matcher(code);
        while (imports.find()) {
            Probe.due("import", imports.group(1), "java.util.Arrays");
        }
        Matcher loops = Pattern.compile("\\bwhile\\b|for \\(;;").matcher(code);
        Probe.due("loops without a counter", loops.find() ? 1 : 0, 0);
        for (int i = 0; i < code.length(); i++) {
            if (code.charAt(i) > 126) {
                Probe.due("byte " + i, code.charAt(i), 0);
            }
        }
    }

    /** Methods stay short, and make nothing: memory is made with the object alone. */
    private static void methods(String code) {
        Matcher matcher = Pattern.compile("(?m)^( +)(?:private |public |static )*[\\w\\[\\]]+ \\w+\\(([^)]*)\\) \\{\n")
            .matcher(code);
        int found = 0;
        while (matcher.find()) {
            int end = code.indexOf("\n" + matcher.group(1) + "}\n", matcher.end() - 1);
            String body = end < 0 ? "" : code.substring(matcher.start(), end);
            String head = matcher.group().trim();
            Probe.due("size of " + head, body.split("\n").length <= 60 ? 1 : 0, 1);
            Probe.due("parameters of " + head, matcher.group(2).split(",").length <= 7 ? 1 : 0, 1);
            Probe.due("makes nothing " + head, Pattern.compile("\\bnew\\b").matcher(body).find() ? 1 : 0, 0);
            found++;
        }
        Probe.due("methods were found", found > 80 ? 1 : 0, 1);
    }
}
