/** Promises 9 to 14, 45 and 46: acts, undo, image, restore. */
final class ActsTest {
    private static final Check CHECK = new Check();

    public static void main(String[] args) {
        days();
        turn();
        shut();
        fill();
        set();
        undo();
        image();
        aDay();
        CHECK.end("ActsTest");
    }

    private static void days() {
        TurnPosts posts = Texts.of(Texts.SMALL);
        CHECK.due("days(0)", posts.days(0), -1);
        CHECK.due("days(21)", posts.days(21), -1);
        CHECK.due("days(-1)", posts.days(-1), -1);
        CHECK.due("count(13)", posts.count(13), 3);
        CHECK.due("no act", posts.count(9), 0);
        CHECK.due("days(2)", posts.days(2), 2);
        CHECK.due("where 0 is", posts.person(0, 0), 0);
        CHECK.due("0's purse", posts.person(0, 2), 4);
        CHECK.due("where 1 is", posts.person(1, 0), 3);
        CHECK.due("1's purse", posts.person(1, 2), 7);
        CHECK.due("who is at home", posts.count(5), 6);
        CHECK.due("one act", posts.count(9), 1);
        CHECK.due("days(20)", posts.days(20), 22);
    }

    private static void turn() {
        TurnPosts posts = Texts.of(Texts.SMALL);
        CHECK.due("turn(0, 0)", posts.turn(0, 0), -1);
        CHECK.due("refused", posts.count(13), 1);
        CHECK.due("turn(0, 1)", posts.turn(0, 1), 0);
        CHECK.due("crossing(0, 3)", posts.crossing(0, 3), 1);
        CHECK.due("turn(0, 0) back", posts.turn(0, 0), 1);
        CHECK.noSuch("turn(0, 2)", () -> posts.turn(0, 2));
        CHECK.noSuch("turn(0, -1)", () -> posts.turn(0, -1));
        CHECK.noSuch("turn(4, 0)", () -> posts.turn(4, 0));
        CHECK.noSuch("turn(-1, 0)", () -> posts.turn(-1, 0));
        CHECK.due("still one refused", posts.count(13), 1);
        CHECK.due("two acts", posts.count(9), 2);
    }

    private static void shut() {
        TurnPosts posts = Texts.of(Texts.SMALL);
        CHECK.due("open that is open", posts.shut(0, 1, false), false);
        CHECK.due("shut", posts.shut(0, 1, true), true);
        CHECK.due("shut that is shut", posts.shut(0, 1, true), false);
        CHECK.due("open", posts.shut(0, 1, false), true);
        CHECK.due("refused", posts.count(13), 2);
        CHECK.due("acts", posts.count(9), 2);
        CHECK.noSuch("shut(0, 2)", () -> posts.shut(0, 2, true));
        CHECK.noSuch("shut(4, 0)", () -> posts.shut(4, 0, true));
        CHECK.noSuch("shut(-1, 0)", () -> posts.shut(-1, 0, false));
    }

    private static void fill() {
        TurnPosts posts = Texts.of(Texts.SMALL);
        CHECK.due("fill(0, 5)", posts.fill(0, 5), -1);
        CHECK.due("fill(0, 100)", posts.fill(0, 100), -1);
        CHECK.due("fill(0, -1)", posts.fill(0, -1), -1);
        CHECK.due("refused", posts.count(13), 3);
        CHECK.due("fill(0, 99)", posts.fill(0, 99), 5);
        CHECK.due("fill(0, 0)", posts.fill(0, 0), 99);
        CHECK.due("purses", posts.count(8), 9);
        CHECK.noSuch("fill(3, 0)", () -> posts.fill(3, 0));
        CHECK.noSuch("fill(-1, 500)", () -> posts.fill(-1, 500));
    }

    private static void set() {
        TurnPosts posts = Texts.of(Texts.SMALL);
        CHECK.due("set(0, 0)", posts.set(0, 0), -1);
        CHECK.due("refused", posts.count(13), 1);
        CHECK.due("set(0, 3)", posts.set(0, 3), 0);
        CHECK.due("home", posts.count(5), 5);
        CHECK.due("set(2, 0)", posts.set(2, 0), 1);
        CHECK.due("home no more", posts.count(5), 1);
        CHECK.noSuch("set(3, 0)", () -> posts.set(3, 0));
        CHECK.noSuch("set(0, 4)", () -> posts.set(0, 4));
        CHECK.noSuch("set(0, -1)", () -> posts.set(0, -1));
    }

    private static void act(TurnPosts posts, int i) {
        switch (i % 5) {
            case 0 -> posts.days(1 + i % 3);
            case 1 -> posts.turn(0, 1 - posts.crossing(0, 3));
            case 2 -> posts.shut(i % 2, 1, posts.road(i % 2, 1, 1) == 0);
            case 3 -> posts.fill(i % 3, (posts.person(i % 3, 2) + 7) % 100);
            default -> posts.set(i % 3, (posts.person(i % 3, 0) + 1) % 4);
        }
    }

    /** Of all states those ahead of act 5, 25 and 44 are looked at: each look takes many of the 512 calls. */
    private static void undo() {
        TurnPosts posts = Texts.of(Texts.SMALL);
        String[] before = new String[45];
        for (int i = 0; i < 45; i++) {
            if (i == 5 || i == 25 || i == 44) {
                before[i] = shown(posts);
            }
            act(posts, i);
        }
        CHECK.due("acts kept", posts.count(9), 40);
        for (int i = 44; i >= 5; i--) {
            CHECK.due("undo()", posts.undo(), i - 5);
            if (before[i] != null) {
                CHECK.same("undone " + i, shown(posts), before[i]);
            }
        }
        CHECK.due("undo() of none", posts.undo(), -1);
        CHECK.due("undo is not refused by status", posts.count(13), 0);
        posts.turn(0, 1 - posts.crossing(0, 3));
        CHECK.due("undo() of one more", posts.undo(), 0);
    }

    /** The state but for how many acts are kept, and how much is seen. */
    private static String shown(TurnPosts posts) {
        String[] parts = Texts.state(posts).split(" ");
        parts[11] = "acts";
        parts[12] = "seen";
        return String.join(" ", parts);
    }

    private static void image() {
        TurnPosts posts = Texts.of(Texts.SMALL);
        CHECK.due("restore() of none", posts.restore(), false);
        act(posts, 0);
        act(posts, 1);
        posts.see(1, 2, 3);
        posts.image();
        String then = shown(posts);
        for (int i = 2; i < 50; i++) {
            act(posts, i);
        }
        posts.days(0);
        posts.see(0, 0, 0);
        posts.forget();
        CHECK.due("restore()", posts.restore(), true);
        CHECK.due("as the image", shown(posts).equals(then), true);
        CHECK.due("acts as the image", posts.count(9), 2);
        CHECK.due("seen as the image", posts.count(10), 1);
        CHECK.due("status stays", posts.count(13), 1);
        act(posts, 7);
        CHECK.due("restore() again", posts.restore(), true);
        CHECK.due("as the image again", shown(posts).equals(then), true);
        CHECK.due("undo() behind it", posts.undo(), 1);
        CHECK.due("undo() the first one", posts.undo(), 0);
        CHECK.due("all as it began", shown(posts).equals(shown(Texts.of(Texts.SMALL))), true);
        posts.image();
        act(posts, 3);
        CHECK.due("restore() of another one", posts.restore(), true);
        CHECK.due("in place of the first", shown(posts).equals(shown(Texts.of(Texts.SMALL))), true);
        posts.forget();
        posts.see(0, 1, 1);
        posts.image();
        posts.forget();
        posts.see(1, 0, 20);
        CHECK.due("seen what isn't so", posts.turned(2), 0);
        posts.restore();
        CHECK.due("seen what is so, as the image", posts.turned(2), 1);
        posts.see(1, 0, 20);
        posts.image();
        posts.forget();
        posts.see(0, 1, 1);
        posts.restore();
        CHECK.due("seen what isn't so, as the image", posts.turned(2), 0);
        Texts.read(posts, "crossing 0 0;");
        CHECK.due("a new shire has none", posts.restore(), false);
    }

    /** What a day is: shut roads, purses, who heeds, the arm that turns all the same. */
    private static void aDay() {
        String two = "crossing 0 0;crossing 5 0;road 0 1;road 0 1;";
        TurnPosts poor = Texts.of(two + "person 0 1 4;");
        poor.days(1);
        CHECK.due("too poor to go", poor.person(0, 0), 0);
        CHECK.due("pays nothing", poor.person(0, 2), 4);
        CHECK.due("turns the arm", poor.crossing(0, 3), 1);
        TurnPosts rich = Texts.of(two + "person 0 1 5;");
        rich.days(1);
        CHECK.due("just enough", rich.person(0, 0), 1);
        CHECK.due("pays all", rich.person(0, 2), 0);
        TurnPosts shut = Texts.of(two + "person 0 1 50;");
        shut.shut(0, 0, true);
        shut.days(1);
        CHECK.due("doesn't go by a shut road", shut.person(0, 0), 0);
        CHECK.due("turns the arm from it", shut.crossing(0, 3), 1);
        TurnPosts careless = Texts.of(two + "person 0 1 50;heeds 0;");
        careless.days(1);
        CHECK.due("who doesn't heed stays", careless.person(0, 0), 0);
        CHECK.due("and turns nothing", careless.crossing(0, 3), 0);
        CHECK.due("the day is one more", careless.count(2), 1);
        TurnPosts home = Texts.of(two + "person 0 0 50;");
        home.days(1);
        CHECK.due("who is at home stays", home.person(0, 0), 0);
        CHECK.due("and turns nothing", home.crossing(0, 3), 0);
        TurnPosts row = Texts.of("crossing 0 0;crossing 0 0;crossing 0 0;road 0 1;road 0 2;"
                + "person 0 1 0;person 0 1 0;person 0 1 0;");
        row.days(1);
        CHECK.due("the first goes to 1", row.person(0, 0), 1);
        CHECK.due("the second to 2", row.person(1, 0), 2);
        CHECK.due("the third to 1", row.person(2, 0), 1);
        CHECK.due("the arm behind three", row.crossing(0, 3), 1);
        TurnPosts seesOthers = Texts.of("crossing 0 0;crossing 0 0;road 0 1;person 0 1 0;person 0 1 0;person 0 0 0;heeds with < 2;");
        seesOthers.days(1);
        CHECK.due("two others: stays", seesOthers.person(0, 0), 0);
        CHECK.due("the second, too", seesOthers.person(1, 0), 0);
        TurnPosts byDay = Texts.of("crossing 0 0;crossing 0 0;road 0 1;person 0 1 0;heeds day = 3;");
        byDay.days(3);
        CHECK.due("not up to day 3", byDay.person(0, 0), 0);
        byDay.days(1);
        CHECK.due("on day 3", byDay.person(0, 0), 1);
        TurnPosts going = Texts.of("crossing 0 0;crossing 0 0;road 0 1;person 0 1 0;person 0 1 0;heeds with = 0;");
        going.days(1);
        CHECK.due("with one other: stays", going.count(5), 0);
        TurnPosts oneByOne = Texts.of("crossing 0 0;crossing 0 0;road 0 1;person 0 1 9;person 0 1 0;heeds with = 0 or purse = 9;");
        oneByOne.days(1);
        CHECK.due("the second sees that the first has gone", oneByOne.count(5), 3);
    }
}
