import java.io.IOException;
import java.lang.reflect.Constructor;
import java.lang.reflect.Field;
import java.lang.reflect.Member;
import java.lang.reflect.Method;
import java.lang.reflect.Modifier;
import java.nio.charset.StandardCharsets;
import java.nio.file.Files;
import java.nio.file.Path;
import java.util.ArrayList;
import java.util.HashMap;
import java.util.HashSet;
import java.util.List;
import java.util.Map;
import java.util.Set;
import java.util.TreeSet;
import java.util.regex.Matcher;
import java.util.regex.Pattern;

/** Holds the face against ../shared/DOC.md, and the source against those rules of LANGUAGE.md that a text shows. */
public final class LanguageTest {
    private static final Path SOURCE = Path.of("src/main/java/Valvekeeper.java");
    private static final Set<String> IMPORTS = Set.of("java.util.ArrayList", "java.util.Arrays", "java.util.List",
        "java.util.Iterator", "java.util.NoSuchElementException");
    private static final String[] WORDS = {"->", "::", "package ", "assert ", "synchronized", "finally", "catch",
        "try ", "Exact(", "getMessage", "Math.rint", "Random", "System.", "Thread", "Override", "import static",
        " == \"", ".equals(", "hashCode", "toString", "String.format"};
    private static final int MOST_LINES = 60;
    private static final int MOST_PARAMETERS = 7;
    private static final int MOST_CLASSES = 12;
    private static final int MOST_FIELDS = 20;
    private static final int DEEPEST = 8;
    private static final Pattern HEAD = Pattern.compile("(\\w+)\\s*\\([^()]*\\)\\s*(throws [\\w\\s,]+)?$");
    private static final Pattern CALL = Pattern.compile("(\\w+)\\s*\\(");
    private static final Set<String> KEYWORDS = Set.of("if", "for", "while", "switch", "return", "super");

    public static void main(String[] args) throws IOException {
        face();
        headings();
        hidden();
        sizes();
        words();
        lengths();
        depths();
        classFiles();
        Due.end();
    }

    /** "int pass(int) throws A,B", with the exceptions in the order of the document. */
    private static Set<String> faceOfDocument() throws IOException {
        Set<String> face = new TreeSet<>();
        for (String line : Document.lines()) {
            if (!line.startsWith("    public ") || !line.endsWith(";")) {
                continue;
            }
            String text = line.strip().replaceFirst("public ", "").replace(";", "");
            int open = text.indexOf('(');
            int close = text.indexOf(')');
            List<String> types = new ArrayList<>();
            for (String parameter : text.substring(open + 1, close).split(", ")) {
                types.add(parameter.split(" ")[0]);
            }
            face.add(text.substring(0, open + 1) + String.join(",", types) + text.substring(close).replace(", ", ","));
        }
        return face;
    }

    private static String names(Class<?>[] types) {
        List<String> names = new ArrayList<>();
        for (Class<?> type : types) {
            names.add(type.getSimpleName());
        }
        return String.join(",", names);
    }

    private static String end(Class<?>[] parameters, Class<?>[] thrown) {
        return "(" + names(parameters) + ")" + (thrown.length == 0 ? "" : " throws " + names(thrown));
    }

    private static void face() throws IOException {
        Set<String> face = new TreeSet<>();
        for (Constructor<?> made : Valvekeeper.class.getDeclaredConstructors()) {
            face.add("Valvekeeper" + end(made.getParameterTypes(), made.getExceptionTypes()));
        }
        for (Method method : Valvekeeper.class.getDeclaredMethods()) {
            if (!Modifier.isPrivate(method.getModifiers())) {
                face.add(method.getReturnType().getSimpleName() + " " + method.getName()
                    + end(method.getParameterTypes(), method.getExceptionTypes()));
            }
        }
        Due.is("the face", faceOfDocument(), () -> face);
        Due.is("public and final", Modifier.PUBLIC | Modifier.FINAL, Valvekeeper.class::getModifiers);
    }

    /** "Ahead of the calls `a`, `b` the interface says: ---- net." holds for the source as well. */
    private static void headings() throws IOException {
        Map<String, String> headingOf = new HashMap<>();
        String heading = "";
        for (String line : Files.readAllLines(SOURCE)) {
            String text = line.strip();
            if (text.startsWith("// ---- ")) {
                heading = text.substring(3);
            } else if (text.startsWith("public ") && text.contains("(")) {
                String ahead = text.substring(0, text.indexOf('('));
                headingOf.put(ahead.substring(ahead.lastIndexOf(' ') + 1), heading);
            }
        }
        for (String line : Document.lines()) {
            if (line.startsWith("Ahead of the calls ")) {
                String due = line.substring(line.indexOf("---- "), line.length() - 1);
                String[] words = line.split("`");
                for (int i = 1; i < words.length; i += 2) {
                    String name = words[i];
                    Due.is("ahead of " + name, due, () -> headingOf.getOrDefault(name, "nothing"));
                }
            }
        }
    }

    private static void hidden() {
        Set<String> open = new HashSet<>();
        for (Method method : Valvekeeper.class.getMethods()) {
            open.add(method.getName());
        }
        for (Method method : Valvekeeper.class.getDeclaredMethods()) {
            if (Modifier.isPrivate(method.getModifiers())) {
                Due.is("no name of a public one: " + method.getName(), false, () -> open.contains(method.getName()));
            }
        }
        for (Field field : Valvekeeper.class.getDeclaredFields()) {
            Due.is("private: " + field.getName(), true, () -> Modifier.isPrivate(field.getModifiers()));
        }
    }

    private static boolean isWritten(Member member) {
        return !member.isSynthetic();
    }

    private static void sizes() {
        List<Class<?>> classes = new ArrayList<>(List.of(Valvekeeper.class.getDeclaredClasses()));
        classes.add(Valvekeeper.class);
        Due.is("classes", true, () -> classes.size() <= MOST_CLASSES);
        for (Class<?> each : classes) {
            int fields = 0;
            for (Field field : each.getDeclaredFields()) {
                boolean isStatic = Modifier.isStatic(field.getModifiers());
                fields += isStatic ? 0 : 1;
                Due.is("a static field is final: " + field.getName(), true,
                    () -> !isStatic || Modifier.isFinal(field.getModifiers()));
            }
            int most = fields;
            Due.is("fields of " + each.getName(), true, () -> most <= MOST_FIELDS);
            Due.is("static: " + each.getName(), true,
                () -> each == Valvekeeper.class || Modifier.isStatic(each.getModifiers()));
            for (Method method : each.getDeclaredMethods()) {
                Due.is("parameters of " + method.getName(), true,
                    () -> !isWritten(method) || method.getParameterCount() <= MOST_PARAMETERS);
            }
        }
    }

    /** The source without comments and written texts. */
    private static List<String> code() throws IOException {
        String text = Files.readString(SOURCE, StandardCharsets.ISO_8859_1);
        String bare = text.replaceAll("(?s)/\\*.*?\\*/", "").replaceAll("//[^\n]*", "").replaceAll("\"[^\"\n]*\"", "\"\"");
        return List.of(bare.split("\n"));
    }

    private static void words() throws IOException {
        for (byte sign : Files.readAllBytes(SOURCE)) {
            if (sign <= 0) {
                Due.is("a sign of the source", "1 to 127", () -> sign);
            }
        }
        for (String line : code()) {
            for (String word : WORDS) {
                Due.is("no '" + word + "' in: " + line.strip(), false, () -> line.contains(word));
            }
            if (line.startsWith("import ")) {
                String name = line.replace("import ", "").replace(";", "").strip();
                Due.is("import of " + name, true, () -> IMPORTS.contains(name));
            }
        }
    }

    /** A brace that is opened right inside a class, and not for another class, begins a method. */
    private static void lengths() throws IOException {
        List<Integer> classes = new ArrayList<>();
        int depth = 0;
        int begun = 0;
        int number = 0;
        for (String line : code()) {
            number++;
            for (char sign : line.toCharArray()) {
                boolean isInClass = !classes.isEmpty() && classes.get(classes.size() - 1) == depth;
                if (sign == '{') {
                    depth++;
                    if (line.contains(" class ")) {
                        classes.add(depth);
                    } else if (isInClass) {
                        begun = number;
                    }
                } else if (sign == '}') {
                    depth--;
                    if (isInClass) {
                        classes.remove(classes.size() - 1);
                    } else if (classes.get(classes.size() - 1) == depth) {
                        int lines = number - begun + 1;
                        int at = begun;
                        Due.is("lines of the method at line " + at + " of the code", true, () -> lines <= MOST_LINES);
                    }
                }
            }
        }
        int left = depth;
        Due.is("all braces are closed", 0, () -> left);
    }

    /** What each method calls, by names: of methods with the same name all calls count. The library's are there too. */
    private static Map<String, Set<String>> callsOf() throws IOException {
        Map<String, Set<String>> calls = new HashMap<>();
        String text = String.join("\n", code());
        String name = "";
        int headFrom = 0;
        int bodyFrom = 0;
        int depth = 0;
        int bodyDepth = 0;
        for (int i = 0; i < text.length(); i++) {
            char sign = text.charAt(i);
            if (sign == '{') {
                depth++;
                Matcher head = HEAD.matcher(text.substring(headFrom, i));
                if (bodyDepth == 0 && head.find()) {
                    name = head.group(1);
                    bodyFrom = i;
                    bodyDepth = depth;
                }
            } else if (sign == '}') {
                if (depth == bodyDepth) {
                    calls.computeIfAbsent(name, each -> new HashSet<>()).addAll(callsIn(text.substring(bodyFrom, i)));
                    bodyDepth = 0;
                }
                depth--;
            }
            headFrom = sign == '{' || sign == '}' || sign == ';' ? i + 1 : headFrom;
        }
        return calls;
    }

    private static Set<String> callsIn(String body) {
        Set<String> found = new HashSet<>();
        Matcher call = CALL.matcher(body);
        while (call.find()) {
            if (!KEYWORDS.contains(call.group(1))) {
                found.add(call.group(1));
            }
        }
        return found;
    }

    private static int depthOf(String name, Map<String, Set<String>> calls, int above) {
        int deepest = 1;
        for (String next : calls.getOrDefault(name, Set.of())) {
            deepest = above > DEEPEST ? DEEPEST + 1 : Math.max(deepest, 1 + depthOf(next, calls, above + 1));
        }
        return deepest;
    }

    private static void depths() throws IOException {
        Map<String, Set<String>> calls = callsOf();
        for (Method method : Valvekeeper.class.getMethods()) {
            if (method.getDeclaringClass() == Valvekeeper.class) {
                String name = method.getName();
                Due.is("known: " + name, true, () -> calls.containsKey(name));
                Due.is("calls below " + name, true, () -> depthOf(name, calls, 1) <= DEEPEST);
            }
        }
    }

    /** Texts that are joined by +, and lambdas, leave these names in the class files. */
    private static void classFiles() throws IOException {
        Path folder = Path.of(System.getProperty("java.class.path"));
        try (var files = Files.newDirectoryStream(folder, "Valvekeeper*.class")) {
            for (Path file : files) {
                String bytes = new String(Files.readAllBytes(file), StandardCharsets.ISO_8859_1);
                if (!file.getFileName().toString().startsWith("ValvekeeperRuns")) {
                    Due.is("no joined texts in " + file, false, () -> bytes.contains("StringConcatFactory"));
                    Due.is("no lambda in " + file, false, () -> bytes.contains("LambdaMetafactory"));
                }
            }
        }
    }
}
