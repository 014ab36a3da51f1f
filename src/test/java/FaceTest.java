import java.io.IOException;
import java.lang.reflect.Constructor;
import java.lang.reflect.Field;
import java.lang.reflect.Method;
import java.lang.reflect.Modifier;
import java.nio.charset.StandardCharsets;
import java.nio.file.Files;
import java.nio.file.Path;
import java.util.ArrayList;
import java.util.HashSet;
import java.util.List;
import java.util.Set;
import java.util.TreeSet;
import java.util.regex.Matcher;
import java.util.regex.Pattern;

/** The face as the document's code block has it (face.txt is its copy), and the rules of LANGUAGE.md that can be seen from outside. */
public final class FaceTest {
    private static final Path FACE = Path.of("src", "test", "face.txt");
    private static final Path PROGRAM = Path.of("src", "main", "java", "TossupHall.java");
    private static final Path DOCUMENT = Path.of("..", "shared", "DOC.md");

    public static void main(String[] args) throws IOException {
        String written = Files.readString(FACE, StandardCharsets.UTF_8);
        String program = Files.readString(PROGRAM, StandardCharsets.UTF_8);
        if (Files.isReadable(DOCUMENT)) {
            String document = Files.readString(DOCUMENT, StandardCharsets.UTF_8);
            Checks.holds("face.txt is the document's code block", document.contains("\n" + written.strip() + "\n```"));
        }
        face(written);
        insideClasses();
        words(program);
        sizes(program);
        Checks.finish("FaceTest");
    }

    private static void face(String written) {
        Set<String> due = new TreeSet<>();
        for (String line : written.split("\n")) {
            if (line.startsWith("    public ") && !line.contains("TossupHall()")) {
                due.add(line.trim().replaceAll("([(,] ?[a-z]+) [A-Za-z]+", "$1").replace(";", ""));
            }
        }
        Set<String> got = new TreeSet<>();
        for (Method method : TossupHall.class.getDeclaredMethods()) {
            if (!Modifier.isPrivate(method.getModifiers())) {
                got.add(told(method));
            }
        }
        Checks.same("the face's methods", got.size(), 44);
        for (String line : due) {
            Checks.holds("the face has: " + line, got.contains(line));
        }
        for (String line : got) {
            Checks.holds("the document has: " + line, due.contains(line));
        }
        for (Field field : TossupHall.class.getDeclaredFields()) {
            Checks.holds("private: " + field, Modifier.isPrivate(field.getModifiers()));
        }
        Constructor<?>[] constructors = TossupHall.class.getDeclaredConstructors();
        Checks.same("constructors", constructors.length, 1);
        Checks.holds("it is public", Modifier.isPublic(constructors[0].getModifiers()));
        Checks.holds("final", Modifier.isFinal(TossupHall.class.getModifiers()));
    }

    private static String told(Method method) {
        StringBuilder line = new StringBuilder(Modifier.toString(method.getModifiers()));
        line.append(' ').append(method.getReturnType().getName()).append(' ').append(method.getName()).append('(');
        for (int i = 0; i < method.getParameterTypes().length; i++) {
            line.append(i == 0 ? "" : ", ").append(method.getParameterTypes()[i].getName());
        }
        line.append(')');
        for (int i = 0; i < method.getExceptionTypes().length; i++) {
            line.append(i == 0 ? " throws " : ", ").append(method.getExceptionTypes()[i].getSimpleName());
        }
        return line.toString();
    }

    private static void insideClasses() {
        Set<String> open = new HashSet<>();
        for (Method method : TossupHall.class.getDeclaredMethods()) {
            if (Modifier.isPublic(method.getModifiers())) {
                open.add(method.getName());
            }
        }
        Class<?>[] classes = TossupHall.class.getDeclaredClasses();
        Checks.holds("some twelve classes", classes.length < 13);
        List<Class<?>> all = new ArrayList<>(List.of(classes));
        all.add(TossupHall.class);
        for (Class<?> inside : all) {
            int fields = 0;
            for (Field field : inside.getDeclaredFields()) {
                boolean isStatic = Modifier.isStatic(field.getModifiers());
                fields += isStatic ? 0 : 1;
                Checks.holds("final if static: " + field, !isStatic || Modifier.isFinal(field.getModifiers()));
            }
            Checks.holds("some twenty fields: " + inside, fields <= 20);
            for (Method method : inside.getDeclaredMethods()) {
                Checks.holds("seven parameters: " + method, method.getParameterCount() <= 7);
                boolean isFace = inside == TossupHall.class && Modifier.isPublic(method.getModifiers());
                Checks.holds("not named as the face is: " + method, isFace || !open.contains(method.getName()));
            }
        }
    }

    private static void words(String program) {
        String code = program.replaceAll("(?s)/\\*.*?\\*/", "").replaceAll("//[^\n]*", "");
        String[] banned = {"->", "::", "Exact(", "finally", "synchronized", "assert ", "static {", "catch", "try {",
            "System.out", "nanoTime", "currentTime", "Random", "Thread", "getMessage", "instanceof", "Object",
            "String", "float[]", "double[]", "\\u", "@", "switch"};
        for (String word : banned) {
            Checks.holds("not in the program: " + word, !code.contains(word));
        }
        Matcher imports = Pattern.compile("import ([a-zA-Z.]+);").matcher(code);
        while (imports.find()) {
            Checks.holds("import " + imports.group(1), imports.group(1).equals("java.util.NoSuchElementException"));
        }
        Matcher library = Pattern.compile("\\b(Math|Integer|Long|System|Arrays)\\.(\\w+)").matcher(code);
        Set<String> allowed = Set.of("min", "max", "abs", "compare", "bitCount", "arraycopy");
        while (library.find()) {
            Checks.holds("library: " + library.group(), allowed.contains(library.group(2)));
        }
        for (char sign : program.toCharArray()) {
            if (sign > 126) {
                Checks.tell("a sign beyond 126: " + (int) sign);
            }
        }
    }

    private static void sizes(String program) {
        String[] lines = program.split("\n");
        int from = 0;
        for (int i = 0; i < lines.length; i++) {
            boolean isHead = lines[i].matches(" {4,8}[a-zA-Z].*\\).*\\{") && !lines[i].trim().startsWith("if");
            if (isHead) {
                from = i;
            }
            if (lines[i].matches(" {4,8}\\}")) {
                Checks.holds("a short method at line " + (from + 1), i - from < 60);
            }
        }
    }
}
