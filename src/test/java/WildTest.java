import java.lang.reflect.InvocationTargetException;
import java.lang.reflect.Method;
import java.lang.reflect.Modifier;
import java.util.List;

/** Whatever numbers a call is given, in whatever state: it throws only what its head names, by a throw of its own. */
final class WildTest {
    private static final Check CHECK = new Check();
    private static final int[] EDGES = {Integer.MIN_VALUE, -1, 0, 1, 2, 3, 4, 5, 6, 7, 8, 9, 10, 20, 21, 60, 61, 99, 100, 101, Integer.MAX_VALUE};
    private static final String FULL = "crossing 0 1;".repeat(9) + "road 0 1;road 1 2;road 2 3;road 3 4;road 4 5;road 5 6;road 6 7;road 7 8;road 8 0;"
            + "road 0 8;road 0 7;road 0 6;road 0 5;" + "person 0 8 99;".repeat(8) + "heeds day+1;turns with*with-arm/0;";

    public static void main(String[] args) throws Exception {
        for (String text : List.of("", "crossing 9 1;", "crossing 0 1;person 0 0 0;", Texts.SMALL, FULL)) {
            for (Method method : TurnPosts.class.getDeclaredMethods()) {
                if (Modifier.isPublic(method.getModifiers())) {
                    all(method, Texts.of(text), new Object[method.getParameterCount()], 0);
                }
            }
        }
        CHECK.end("WildTest");
    }

    private static void all(Method method, TurnPosts posts, Object[] args, int at) throws Exception {
        if (at == args.length) {
            one(method, posts, args);
        } else if (at > 2) {
            args[at] = 7;
            all(method, posts, args, at + 1);
        } else if (method.getParameterTypes()[at] == boolean.class) {
            for (boolean is : new boolean[] {true, false}) {
                args[at] = is;
                all(method, posts, args, at + 1);
            }
        } else {
            for (int edge : EDGES) {
                args[at] = edge;
                all(method, posts, args, at + 1);
            }
        }
    }

    private static void one(Method method, TurnPosts posts, Object[] args) throws Exception {
        try {
            method.invoke(posts, args);
            CHECK.due("an answer", 0, 0);
        } catch (InvocationTargetException e) {
            Throwable thrown = e.getCause();
            boolean told = List.of(method.getExceptionTypes()).contains(thrown.getClass());
            boolean own = thrown.getStackTrace().length > 0 && thrown.getStackTrace()[0].getClassName().startsWith("TurnPosts");
            CHECK.due(method.getName() + java.util.Arrays.toString(args) + " threw " + thrown, told && own, true);
        }
    }
}
