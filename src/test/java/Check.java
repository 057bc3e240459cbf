import java.util.NoSuchElementException;
import java.util.function.IntSupplier;

/** Counts what isn't as due; a test ends with exit code 1 if there was any. */
final class Check {
    private int wrong;
    private int asked;

    void due(String call, long got, long want) {
        asked++;
        if (got != want) {
            wrong("%s answered %d, due is %d".formatted(call, got, want));
        }
    }

    void due(String call, boolean got, boolean want) {
        due(call, got ? 1 : 0, want ? 1 : 0);
    }

    void noSuch(String call, Runnable run) {
        thrown(call, run, NoSuchElementException.class);
    }

    void illegal(String call, Runnable run) {
        thrown(call, run, IllegalArgumentException.class);
    }

    /** A call that throws changes nothing, no STATUS either. */
    void noSuchAndStays(String call, TurnPosts posts, Runnable run) {
        String all = Texts.state(posts) + Texts.status(posts);
        noSuch(call, run);
        same(call + " changes nothing", Texts.state(posts) + Texts.status(posts), all);
    }

    void illegalAndStays(String call, TurnPosts posts, Runnable run) {
        String all = Texts.state(posts) + Texts.status(posts);
        illegal(call, run);
        same(call + " changes nothing", Texts.state(posts) + Texts.status(posts), all);
    }

    /** A call that is refused answers NONE (false: 0), counts one in its STATUS, and changes nothing else. */
    void refused(String call, TurnPosts posts, int status, IntSupplier run) {
        String all = Texts.state(posts);
        int[] counts = {posts.count(12), posts.count(13), posts.count(14)};
        int got = run.getAsInt();
        due(call + " is refused", got == 0 || got == -1, true);
        for (int i = 0; i < 3; i++) {
            due(call + ": STATUS " + i, posts.count(12 + i), counts[i] + (i == status ? 1 : 0));
        }
        same(call + " changes nothing", Texts.state(posts), all);
    }

    void same(String call, String got, String want) {
        asked++;
        if (!got.equals(want)) {
            wrong(call + ": " + got + ", due is " + want);
        }
    }

    private void thrown(String call, Runnable run, Class<?> want) {
        asked++;
        try {
            run.run();
        } catch (RuntimeException e) {
            if (e.getClass() != want) {
                wrong(call + " threw " + e + ", due is " + want.getSimpleName());
            }
            return;
        }
        wrong(call + " threw nothing, due is " + want.getSimpleName());
    }

    void wrong(String text) {
        wrong++;
        if (wrong <= 40) {
            System.out.println(text);
        }
    }

    void end(String test) {
        System.out.println(test + ": " + asked + " asked, " + wrong + " wrong");
        if (wrong > 0) {
            System.exit(1);
        }
    }
}
