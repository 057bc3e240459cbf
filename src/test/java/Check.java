import java.util.NoSuchElementException;

/** Counts what isn't as due; a test ends with exit code 1 if there was any. */
final class Check {
    private int wrong;
    private int asked;

    void due(String call, long got, long want) {
        asked++;
        if (got != want) {
            wrong("%s answered %d, due is %d".formatted(call, got, want));
        }
    }

    void due(String call, boolean got, boolean want) {
        due(call, got ? 1 : 0, want ? 1 : 0);
    }

    void noSuch(String call, Runnable run) {
        thrown(call, run, NoSuchElementException.class);
    }

    void illegal(String call, Runnable run) {
        thrown(call, run, IllegalArgumentException.class);
    }

    private void thrown(String call, Runnable run, Class<?> want) {
        asked++;
        try {
            run.run();
        } catch (RuntimeException e) {
            if (e.getClass() != want) {
                wrong(call + " threw " + e + ", due is " + want.getSimpleName());
            }
            return;
        }
        wrong(call + " threw nothing, due is " + want.getSimpleName());
    }

    void wrong(String text) {
        wrong++;
        if (wrong <= 40) {
            System.out.println(text);
        }
    }

    void end(String test) {
        System.out.println(test + ": " + asked + " asked, " + wrong + " wrong");
        if (wrong > 0) {
            System.exit(1);
        }
    }
}
