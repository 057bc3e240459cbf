import java.nio.charset.StandardCharsets;

/** Feeds texts to an object. */
final class Texts {
    /** Of the shared tests: two ways out of 0 and 1, and a ring of 2 and 3. */
    static final String SMALL = "crossing 1 1;crossing 0 0;crossing 2 1;crossing 0 0;"
            + "road 0 1;road 0 2;road 1 0;road 2 3;road 1 3;road 3 2;"
            + "person 0 3 5;person 0 3 9;person 1 1 0;";

    private Texts() {
    }

    static void feed(TurnPosts posts, String text) {
        byte[] bytes = text.getBytes(StandardCharsets.ISO_8859_1);
        for (int at = 0; at < bytes.length; at += 20) {
            posts.feed(word(bytes, at), word(bytes, at + 4), word(bytes, at + 8), word(bytes, at + 12), word(bytes, at + 16));
        }
    }

    private static int word(byte[] bytes, int at) {
        int word = 0;
        for (int i = at; i < at + 4; i++) {
            word = word << 8 | (i < bytes.length ? bytes[i] & 255 : ' ');
        }
        return word;
    }

    static int read(TurnPosts posts, String text) {
        feed(posts, text);
        return posts.shire(text.length());
    }

    static TurnPosts of(String text) {
        TurnPosts posts = new TurnPosts();
        int fault = read(posts, text);
        if (fault != 0) {
            throw new IllegalStateException("fault " + fault + " at " + posts.fault() + " of " + text);
        }
        return posts;
    }
}
