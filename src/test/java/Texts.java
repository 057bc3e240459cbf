import java.nio.charset.StandardCharsets;

/** Feeds texts to an object. */
final class Texts {
    /** Of the shared tests: two ways out of 0 and 1, and a ring of 2 and 3. */
    static final String SMALL = "crossing 1 1;crossing 0 0;crossing 2 1;crossing 0 0;"
            + "road 0 1;road 0 2;road 1 0;road 2 3;road 1 3;road 3 2;"
            + "person 0 3 5;person 0 3 9;person 1 1 0;";

    /** As much as a text can tell: 9 crossings of toll 9, 5 roads from each to the next one round, 8 people, who go home by 8 steps. */
    static final String FULL = full();

    private Texts() {
    }

    static void feed(TurnPosts posts, String text) {
        byte[] bytes = text.getBytes(StandardCharsets.ISO_8859_1);
        for (int at = 0; at < bytes.length; at += 20) {
            posts.feed(word(bytes, at), word(bytes, at + 4), word(bytes, at + 8), word(bytes, at + 12), word(bytes, at + 16));
        }
    }

    private static int word(byte[] bytes, int at) {
        int word = 0;
        for (int i = at; i < at + 4; i++) {
            word = word << 8 | (i < bytes.length ? bytes[i] & 255 : ' ');
        }
        return word;
    }

    static int read(TurnPosts posts, String text) {
        feed(posts, text);
        return posts.shire(text.length());
    }

    static TurnPosts of(String text) {
        TurnPosts posts = new TurnPosts();
        int fault = read(posts, text);
        if (fault != 0) {
            throw new IllegalStateException("fault " + fault + " at " + posts.fault() + " of " + text);
        }
        return posts;
    }

    private static String full() {
        StringBuilder text = new StringBuilder("crossing 9 1;".repeat(9));
        for (int crossing = 0; crossing < 9; crossing++) {
            text.append(("road " + crossing + " " + (crossing + 1) % 9 + ";").repeat(5));
        }
        return text.append("person 0 8 99;".repeat(8)).toString();
    }

    /** All that can be seen of an object's state but for STATUS; of a full shire by some 110 of the 512 calls that it is promised for. */
    static String state(TurnPosts posts) {
        StringBuilder all = new StringBuilder("fault " + posts.fault());
        for (int what = 0; what <= 11; what++) {
            all.append(' ').append(posts.count(what));
        }
        int crossings = posts.count(0);
        for (int crossing = 0; crossing < crossings; crossing++) {
            all.append(" | ").append(posts.crossing(crossing, 3)).append(' ').append(posts.crossing(crossing, 4)).append(' ');
            int roads = posts.crossing(crossing, 2);
            for (int road = 0; road < roads; road++) {
                all.append(posts.road(crossing, road, 1));
            }
        }
        int people = posts.count(1);
        for (int person = 0; person < people; person++) {
            all.append(" / ").append(posts.person(person, 0)).append(' ').append(posts.person(person, 2));
        }
        return all.toString();
    }

    static String status(TurnPosts posts) {
        return " status " + posts.count(12) + " " + posts.count(13) + " " + posts.count(14);
    }
}
