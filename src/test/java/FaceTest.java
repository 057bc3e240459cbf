import java.lang.reflect.Constructor;
import java.lang.reflect.Field;
import java.lang.reflect.Method;
import java.lang.reflect.Modifier;
import java.nio.file.Files;
import java.nio.file.Path;
import java.util.ArrayList;
import java.util.Arrays;
import java.util.List;
import java.util.Set;
import java.util.TreeSet;
import java.util.regex.Matcher;
import java.util.regex.Pattern;
import java.util.stream.Collectors;

/** The face is the document's, to the word; and what LANGUAGE.md says of members and words that can be seen at once. */
final class FaceTest {
    private static final Check CHECK = new Check();
    private static final Path DOC = Path.of("../shared/DOC.md");
    private static final Path SOURCE = Path.of("src/main/java/TurnPosts.java");

    public static void main(String[] args) throws Exception {
        face();
        members();
        words();
        library();
        lengths();
        CHECK.end("FaceTest");
    }

    private static String names(Class<?>[] types) {
        return Arrays.stream(types).map(Class::getSimpleName).collect(Collectors.joining(", "));
    }

    private static String head(Method method) {
        Class<?>[] thrown = method.getExceptionTypes();
        return "public " + method.getReturnType().getSimpleName() + " " + method.getName() + "(" + names(method.getParameterTypes()) + ")"
                + (thrown.length == 0 ? "" : " throws " + names(thrown)) + ";";
    }

    /** The document's heads, without the names of parameters. */
    private static Set<String> due() throws Exception {
        Set<String> heads = new TreeSet<>();
        for (String line : Files.readAllLines(DOC)) {
            if (line.startsWith("    public ") && line.contains("(") && !line.contains("TurnPosts(")) {
                heads.add(line.trim().replaceAll("(int|boolean) [a-z]+([,)])", "$1$2"));
            }
        }
        return heads;
    }

    private static void face() throws Exception {
        Set<String> heads = new TreeSet<>();
        for (Method method : TurnPosts.class.getDeclaredMethods()) {
            if (Modifier.isPublic(method.getModifiers())) {
                heads.add(head(method));
                CHECK.due("static " + method.getName(), Modifier.isStatic(method.getModifiers()), false);
            }
        }
        Set<String> missing = new TreeSet<>(due());
        missing.removeAll(heads);
        heads.removeAll(due());
        CHECK.due("heads of the document", due().size(), 45);
        CHECK.due("missing " + missing, missing.size(), 0);
        CHECK.due("not in the document " + heads, heads.size(), 0);
        Constructor<?>[] constructors = TurnPosts.class.getDeclaredConstructors();
        CHECK.due("constructors", constructors.length, 1);
        CHECK.due("public constructor", Modifier.isPublic(constructors[0].getModifiers()), true);
        CHECK.due("public final class", TurnPosts.class.getModifiers(), Modifier.PUBLIC | Modifier.FINAL);
    }

    private static void members() {
        Set<String> open = new TreeSet<>();
        for (Method method : TurnPosts.class.getDeclaredMethods()) {
            if (Modifier.isPublic(method.getModifiers())) {
                open.add(method.getName());
            } else {
                CHECK.due("private " + method.getName(), Modifier.isPrivate(method.getModifiers()), true);
            }
        }
        List<Class<?>> classes = new ArrayList<>(List.of(TurnPosts.class.getDeclaredClasses()));
        classes.add(TurnPosts.class);
        CHECK.due("at most twelve classes", classes.size() <= 12, true);
        for (Class<?> each : classes) {
            int fields = 0;
            for (Field field : each.getDeclaredFields()) {
                boolean isStatic = Modifier.isStatic(field.getModifiers());
                CHECK.due("static and not final: " + field, isStatic && !Modifier.isFinal(field.getModifiers()), false);
                boolean seen = !Modifier.isPrivate(field.getModifiers()) && each == TurnPosts.class && !field.getName().equals("NONE");
                CHECK.due("a field that is seen: " + field, seen, false);
                fields += isStatic ? 0 : 1;
            }
            CHECK.due("fields of " + each, fields <= 20, true);
            for (Method method : each.getDeclaredMethods()) {
                boolean same = open.contains(method.getName()) && !Modifier.isPublic(method.getModifiers());
                CHECK.due("named as a public one: " + method, same, false);
                CHECK.due("parameters of " + method, method.getParameterCount() <= 7, true);
            }
        }
    }

    private static void words() throws Exception {
        String source = Files.readString(SOURCE).replaceAll("//.*|(?s)/\\*.*?\\*/", "");
        for (String word : List.of("->", "::", "finally", "catch", "synchronized", "assert", "Exact(", "System.out", "new Random", "float ",
                "double ", "package ", "hashCode", "getMessage", "String +", "\" +", "+ \"", "while (true)", "for (;;)")) {
            CHECK.due("the word " + word, source.contains(word), false);
        }
        for (String line : Files.readAllLines(SOURCE)) {
            CHECK.due("a sign beyond 127 in " + line, line.chars().anyMatch(c -> c > 126), false);
        }
    }

    /** Calls of a library's class by its name: only those that LANGUAGE.md lists and the class needs. */
    private static void library() throws Exception {
        String source = Files.readString(SOURCE).replaceAll("//.*|(?s)/\\*.*?\\*/", "");
        Set<String> listed = Set.of("Integer.bitCount", "Math.max", "Math.min", "Arrays.fill", "System.arraycopy");
        Matcher call = Pattern.compile("\\b(Integer|Long|Math|Arrays|System|String|Character|List|Objects)\\.(\\w+)").matcher(source);
        while (call.find()) {
            CHECK.due("of the library " + call.group(), listed.contains(call.group()), true);
        }
        Matcher imported = Pattern.compile("import ([\\w.]+)").matcher(source);
        while (imported.find()) {
            CHECK.due("imported " + imported.group(1), Set.of("java.util.Arrays", "java.util.NoSuchElementException").contains(imported.group(1)), true);
        }
    }

    private static void lengths() throws Exception {
        List<String> lines = Files.readAllLines(SOURCE);
        for (int from = 0; from < lines.size(); from++) {
            String line = lines.get(from);
            if (line.matches(" +(public|private) .*\\(.*\\{") && !line.contains("class ")) {
                String end = " ".repeat(line.length() - line.stripLeading().length()) + "}";
                int length = lines.subList(from, lines.size()).indexOf(end) + 1;
                CHECK.due("a method of at most sixty lines: " + line.trim(), length > 0 && length <= 60, true);
            }
        }
    }
}
