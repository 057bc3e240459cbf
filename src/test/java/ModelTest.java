import java.lang.reflect.InvocationTargetException;
import java.lang.reflect.Method;
import java.lang.reflect.Modifier;
import java.nio.charset.StandardCharsets;
import java.util.ArrayList;
import java.util.Comparator;
import java.util.List;
import java.util.Random;

/** Runs of calls by a seed on an object and on the Model: all answers and exceptions are alike. */
final class ModelTest {
    private static final Check CHECK = new Check();
    private static final String[] WORDS = {"crossing", "road", "person", "arm", "heeds", "turns", "not", "and", "or", "roads", "purse",
        "with", "day", "x", ";", "(", ")", "+", "-", "*", "/", "<", "=", "0", "1", "2", "7", "10", "99", "100", "9999", "12345", "$", " "};
    private final Random random;
    private final TurnPosts posts = new TurnPosts();
    private final Model model = new Model();
    private final StringBuilder log = new StringBuilder();
    private final List<Method> methods = new ArrayList<>();
    private int calls;

    private ModelTest(long seed) {
        random = new Random(seed);
        for (Method method : TurnPosts.class.getDeclaredMethods()) {
            if (Modifier.isPublic(method.getModifiers()) && !List.of("feed", "shire").contains(method.getName())) {
                methods.add(method);
            }
        }
        methods.sort(Comparator.comparing(Method::getName));
    }

    public static void main(String[] args) throws Exception {
        int runs = args.length > 0 ? Integer.parseInt(args[0]) : 2500;
        long base = args.length > 1 ? Long.parseLong(args[1]) : 0;
        for (long seed = base; seed < base + runs; seed++) {
            new ModelTest(seed).run();
        }
        for (long seed = base; seed < base + runs * 8; seed++) {
            new ModelTest(seed).texts();
        }
        CHECK.end("ModelTest");
    }

    private int below(int n) {
        return random.nextInt(n);
    }

    private boolean oneIn(int n) {
        return below(n) == 0;
    }

    // ---- texts

    private String expr(int depth) {
        String[] leaves = {"arm", "roads", "purse", "with", "day", "0", "1", "2", "3", "5", "10", "9999"};
        if (depth <= 0 || oneIn(4)) {
            return leaves[below(leaves.length)];
        }
        if (oneIn(8)) {
            return "not ".repeat(1 + below(oneIn(10) ? 7 : 2)) + expr(depth - 1);
        }
        if (oneIn(4)) {
            return "(" + expr(depth - 1) + ")";
        }
        String[] signs = {"+", "-", "*", "/", "<", "=", " and ", " or "};
        return expr(depth - 1) + signs[below(signs.length)] + expr(depth - 1);
    }

    private String rule() {
        if (oneIn(3)) {
            return expr(1 + below(6));
        }
        String[] usual = {"purse<5 or with=0", "day/2*2=day", "with+1", "arm+day", "not with", "purse-3", "roads-arm", "(day+arm)/3", "2"};
        return usual[below(usual.length)];
    }

    private String text() {
        int crossings = 1 + below(oneIn(4) ? 9 : 5);
        List<String> lines = new ArrayList<>();
        for (int i = 0; i < crossings; i++) {
            lines.add("crossing " + (oneIn(2) ? 0 : below(oneIn(3) ? 10 : 3)) + " " + below(2) + ";");
        }
        int roads = below(crossings * 3 + 1);
        List<String> rest = new ArrayList<>();
        for (int i = 0; i < roads && crossings > 1; i++) {
            int from = below(crossings);
            rest.add("road " + from + " " + (from + 1 + below(crossings - 1)) % crossings + ";");
        }
        int people = below(oneIn(4) ? 9 : 5);
        for (int i = 0; i < people; i++) {
            rest.add("person " + below(crossings) + " " + below(crossings) + " " + (oneIn(3) ? below(100) : below(20)) + ";");
        }
        if (oneIn(2)) {
            rest.add("heeds " + rule() + ";");
        }
        if (oneIn(2)) {
            rest.add("turns " + rule() + ";");
        }
        java.util.Collections.shuffle(rest, random);
        lines.addAll(rest);
        for (int i = 0; i < crossings && oneIn(2); i++) {
            lines.add("arm " + below(crossings) + " " + below(2) + ";");
        }
        return String.join("", lines);
    }

    /** Nobody at home at first, roads from everywhere: most calls have something to find. */
    private String rich() {
        int crossings = 3 + below(7);
        int most = below(3) * 2;
        StringBuilder text = new StringBuilder();
        for (int i = 0; i < crossings; i++) {
            text.append("crossing ").append(below(most + 1)).append(' ').append(below(2)).append(';');
        }
        for (int from = 0; from < crossings; from++) {
            for (int roads = 1 + below(3); roads > 0; roads--) {
                text.append("road ").append(from).append(' ').append((from + 1 + below(crossings - 1)) % crossings).append(';');
            }
        }
        for (int people = 1 + below(8); people > 0; people--) {
            int where = below(oneIn(3) ? 1 : crossings);
            text.append("person ").append(where).append(' ').append((where + 1 + below(crossings - 1)) % crossings);
            text.append(' ').append(oneIn(2) ? 99 : below(20)).append(';');
        }
        if (oneIn(3)) {
            text.append("heeds ").append(rule()).append(';');
        }
        if (oneIn(3)) {
            text.append("turns ").append(rule()).append(';');
        }
        return text.toString();
    }

    private String spoil(String text) {
        StringBuilder spoilt = new StringBuilder(text);
        for (int i = 1 + below(2); i > 0; i--) {
            int at = below(spoilt.length() + 1);
            switch (below(4)) {
                case 0 -> spoilt.insert(at, " " + WORDS[below(WORDS.length)] + " ");
                case 1 -> spoilt.delete(at, Math.min(spoilt.length(), at + 1 + below(6)));
                case 2 -> spoilt.insert(at, (char) below(256));
                default -> spoilt.insert(at, "((((((((".substring(below(8)) + expr(3) + "))))))))".substring(below(8)));
            }
        }
        return spoilt.toString();
    }

    private void read(String text) throws Exception {
        byte[] bytes = text.getBytes(StandardCharsets.ISO_8859_1);
        for (int at = 0; at < bytes.length; at += 20) {
            int[] numbers = new int[5];
            for (int i = 0; i < 20; i++) {
                int sign = at + i < bytes.length ? bytes[at + i] & 255 : below(256);
                numbers[i / 4] = numbers[i / 4] << 8 | sign;
            }
            same("feed", numbers);
        }
        same("shire", Math.min(text.length(), 700));
    }

    // ---- calls

    private static Object[] boxed(Method method, int[] args) {
        Object[] boxes = new Object[args.length];
        for (int i = 0; i < args.length; i++) {
            boxes[i] = method.getParameterTypes()[i] == boolean.class ? (Object) (args[i] == 1) : (Object) args[i];
        }
        return boxes;
    }

    private String ofPosts(Method method, int[] args) throws Exception {
        try {
            Object answer = method.invoke(posts, boxed(method, args));
            return answer == null ? "0" : answer instanceof Boolean is ? is ? "1" : "0" : answer.toString();
        } catch (InvocationTargetException e) {
            return e.getCause().getClass().getSimpleName();
        }
    }

    private String ofModel(String name, int[] args) {
        try {
            return Long.toString(model.call(name, args));
        } catch (java.util.NoSuchElementException | IllegalArgumentException e) {
            return e.getClass().getSimpleName();
        }
    }

    private void same(String name, int... args) throws Exception {
        Method method = null;
        for (Method each : TurnPosts.class.getDeclaredMethods()) {
            if (each.getName().equals(name) && Modifier.isPublic(each.getModifiers())) {
                method = each;
            }
        }
        same(method, args);
    }

    private void same(Method method, int[] args) throws Exception {
        if (calls++ >= 512) {
            return;
        }
        String want = ofModel(method.getName(), args);
        String got = ofPosts(method, args);
        log.append(method.getName()).append(java.util.Arrays.toString(args)).append(" -> ").append(want).append('\n');
        CHECK.due("same", 0, 0);
        if (!got.equals(want)) {
            CHECK.wrong("answered " + got + " in\n" + log);
        }
    }

    private int argument() {
        return switch (below(12)) {
            case 0, 1 -> below(101);
            case 2 -> below(21);
            case 3 -> below(3) * 30;
            case 4 -> below(8) - 1;
            case 5 -> oneIn(4) ? random.nextInt() : below(4);
            default -> below(4);
        };
    }

    private void run() throws Exception {
        if (oneIn(12)) {
            calls(6);
        }
        for (int shires = 1 + below(2); shires > 0; shires--) {
            read(oneIn(8) ? spoil(text()) : oneIn(2) ? text() : rich());
            calls(40);
        }
    }

    private void texts() throws Exception {
        read(spoil(text()));
        same("fault");
        same("count", 0);
        same("count", 3);
        same("count", 12);
    }

    private void calls(int many) throws Exception {
        for (int i = 0; i < many; i++) {
            Method method = methods.get(below(methods.size()));
            int[] args = new int[method.getParameterCount()];
            for (int k = 0; k < args.length; k++) {
                args[k] = method.getParameterTypes()[k] == boolean.class ? below(2) : argument();
            }
            same(method, args);
        }
    }
}
