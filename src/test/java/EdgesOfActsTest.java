/** The edges that promises 5 to 14, 45 and 46 name, and those of a DAY: counts of a full shire, refused acts, undo, images. */
final class EdgesOfActsTest {
    private static final Check CHECK = new Check();
    private static final int[] FAR_OFF = {Integer.MIN_VALUE, -1, 9, Integer.MAX_VALUE};
    private static final String TWO = "crossing 0 0;crossing 0 0;";

    public static void main(String[] args) {
        counts();
        crossings();
        roads();
        people();
        days();
        lastDay();
        turn();
        shut();
        fill();
        set();
        noSuch();
        undo();
        manyActs();
        image();
        imageOfManyActs();
        stays();
        tolls();
        turns();
        oneBehindTheOther();
        CHECK.end("EdgesOfActsTest");
    }

    private static TurnPosts small() {
        return Texts.of(Texts.SMALL);
    }

    private static TurnPosts full() {
        return Texts.of(Texts.FULL);
    }

    // ---- promises 5 to 8

    private static void counts() {
        TurnPosts posts = full();
        // A ring of nine is watched by five: 0, 1, 3, 5 and 7 are the least as bits.
        int[] due = {9, 8, 0, 45, 0, 0, 1, 1 + 2 + 8 + 32 + 128, 792, 0, 0, 0, 0, 0, 0};
        for (int what = 0; what < due.length; what++) {
            CHECK.due("full count(" + what + ")", posts.count(what), due[what]);
        }
        for (int what : new int[] {-1, 15, 16, Integer.MIN_VALUE, Integer.MAX_VALUE}) {
            CHECK.noSuch("count(" + what + ")", () -> posts.count(what));
            CHECK.noSuch("count(" + what + ") of nothing", () -> new TurnPosts().count(what));
        }
        for (int crossing = 0; crossing < 9; crossing++) {
            for (int road = 0; road < 5; road++) {
                posts.shut(crossing, road, true);
            }
        }
        CHECK.due("all are shut", posts.count(4), 45);
        CHECK.due("all are roads", posts.count(3), 45);
        CHECK.due("nine parts", posts.count(6), 9);
        CHECK.due("nothing to watch", posts.count(7), 0);
        CHECK.due("40 acts", posts.count(9), 40);
        TurnPosts home = full();
        for (int person = 0; person < 8; person++) {
            home.set(person, 8);
        }
        CHECK.due("all at home", home.count(5), 255);
        TurnPosts fed = small();
        fed.feed(0, 0, 0, 0, 0);
        CHECK.due("bytes of the tape", fed.count(11), 20);
        CHECK.due("purses of none", Texts.of("crossing 0 0;").count(8), 0);
        CHECK.due("parts of one", Texts.of("crossing 0 0;").count(6), 1);
    }

    private static void crossings() {
        TurnPosts posts = full();
        int[] due = {9, 1, 5, 0, 255, 511, 511};
        for (int what = 0; what < due.length; what++) {
            CHECK.due("full crossing(0, " + what + ")", posts.crossing(0, what), due[what]);
        }
        CHECK.due("nobody is there", posts.crossing(8, 4), 0);
        CHECK.due("five roads of the last one", posts.crossing(8, 2), 5);
        posts.turn(8, 4);
        CHECK.due("the last arm down the last road", posts.crossing(8, 3), 4);
        for (int crossing : FAR_OFF) {
            for (int what = 0; what <= 7; what++) {
                int asked = what;
                CHECK.noSuch("crossing(" + crossing + ", " + what + ")", () -> posts.crossing(crossing, asked));
            }
        }
        for (int what : new int[] {-1, 7, Integer.MIN_VALUE, Integer.MAX_VALUE}) {
            CHECK.noSuch("crossing(0, " + what + ")", () -> posts.crossing(0, what));
        }
        TurnPosts alone = Texts.of("crossing 0 1;crossing 9 0;");
        int[] bare = {0, 1, 0, 0, 0, 1, 1};
        int[] other = {9, 0, 0, 0, 0, 2, 2};
        for (int what = 0; what < bare.length; what++) {
            CHECK.due("bare crossing(0, " + what + ")", alone.crossing(0, what), bare[what]);
            CHECK.due("bare crossing(1, " + what + ")", alone.crossing(1, what), other[what]);
        }
        CHECK.noSuch("the crossing behind the last", () -> alone.crossing(2, 0));
        CHECK.noSuch("no crossing at all", () -> new TurnPosts().crossing(0, 0));
    }

    private static void roads() {
        TurnPosts posts = full();
        CHECK.due("the last road", posts.road(8, 4, 0), 0);
        CHECK.due("it is open", posts.road(8, 4, 1), 0);
        posts.shut(8, 4, true);
        CHECK.due("it is shut", posts.road(8, 4, 1), 1);
        CHECK.due("its neighbour is open", posts.road(8, 3, 1), 0);
        CHECK.due("it leads where it did", posts.road(8, 4, 0), 0);
        posts.shut(8, 4, false);
        CHECK.due("it is open again", posts.road(8, 4, 1), 0);
        for (int crossing : FAR_OFF) {
            CHECK.noSuch("road(" + crossing + ", 0, 0)", () -> posts.road(crossing, 0, 0));
        }
        for (int road : new int[] {-1, 5, Integer.MIN_VALUE, Integer.MAX_VALUE}) {
            CHECK.noSuch("road(0, " + road + ", 0)", () -> posts.road(0, road, 0));
        }
        for (int what : new int[] {-1, 2, Integer.MIN_VALUE, Integer.MAX_VALUE}) {
            CHECK.noSuch("road(0, 0, " + what + ")", () -> posts.road(0, 0, what));
        }
        CHECK.noSuch("a road of another one", () -> small().road(2, 1, 0));
    }

    private static void people() {
        TurnPosts posts = full();
        int[] due = {0, 8, 99, 7, 7};
        for (int what = 0; what < due.length; what++) {
            CHECK.due("full person(7, " + what + ")", posts.person(7, what), due[what]);
        }
        posts.set(7, 8);
        CHECK.due("alone", posts.person(7, 4), 0);
        CHECK.due("at home", posts.person(7, 0), 8);
        CHECK.due("one fewer", posts.person(0, 4), 6);
        posts.fill(7, 0);
        CHECK.due("an empty purse", posts.person(7, 2), 0);
        CHECK.due("lodged where one is", posts.person(7, 3), 8);
        for (int person : new int[] {Integer.MIN_VALUE, -1, 8, Integer.MAX_VALUE}) {
            for (int what = 0; what <= 5; what++) {
                int asked = what;
                CHECK.noSuch("person(" + person + ", " + what + ")", () -> posts.person(person, asked));
            }
        }
        for (int what : new int[] {-1, 5, Integer.MIN_VALUE, Integer.MAX_VALUE}) {
            CHECK.noSuch("person(0, " + what + ")", () -> posts.person(0, what));
        }
        CHECK.due("lodged nowhere", Texts.of("crossing 0 0;person 0 0 0;").person(0, 3), -1);
        CHECK.noSuch("nobody at all", () -> Texts.of("crossing 0 0;").person(0, 0));
    }

    // ---- promises 9 to 13: what is refused, and what isn't

    private static void days() {
        for (int many : new int[] {0, -1, 21, 22, Integer.MIN_VALUE, Integer.MAX_VALUE}) {
            TurnPosts posts = small();
            CHECK.refused("days(" + many + ")", posts, 1, () -> posts.days(many));
            CHECK.due("days(" + many + ")", posts.days(many), -1);
        }
        TurnPosts posts = small();
        CHECK.due("days(1)", posts.days(1), 1);
        CHECK.due("days(20)", posts.days(20), 21);
        CHECK.due("two acts", posts.count(9), 2);
        CHECK.due("none refused", posts.count(13), 0);
        CHECK.due("the day", posts.count(2), 21);
    }

    private static void lastDay() {
        TurnPosts posts = new TurnPosts();
        for (int i = 0; i < 499; i++) {
            posts.days(20);
        }
        CHECK.due("days(20) above 9999", posts.days(20), -1);
        CHECK.due("refused", posts.count(13), 1);
        CHECK.due("the day stays", posts.count(2), 9980);
        CHECK.due("days(19) to 9999", posts.days(19), 9999);
        CHECK.due("days(1) above 9999", posts.days(1), -1);
        CHECK.due("the last day", posts.count(2), 9999);
    }

    private static void turn() {
        TurnPosts posts = full();
        CHECK.refused("turn(0, 0)", posts, 1, () -> posts.turn(0, 0));
        CHECK.due("turn(0, 0)", posts.turn(0, 0), -1);
        CHECK.due("turn(8, 4)", posts.turn(8, 4), 0);
        CHECK.due("turn(8, 4) again", posts.turn(8, 4), -1);
        CHECK.due("turn(8, 0)", posts.turn(8, 0), 4);
        CHECK.due("two acts", posts.count(9), 2);
        CHECK.due("three refused", posts.count(13), 3);
        TurnPosts shut = small();
        shut.shut(0, 1, true);
        CHECK.due("to a road that is shut", shut.turn(0, 1), 0);
    }

    private static void shut() {
        TurnPosts posts = full();
        CHECK.refused("to open what is open", posts, 1, () -> posts.shut(8, 4, false) ? 1 : 0);
        CHECK.due("shut", posts.shut(8, 4, true), true);
        CHECK.due("one act", posts.count(9), 1);
        CHECK.refused("to shut what is shut", posts, 1, () -> posts.shut(8, 4, true) ? 1 : 0);
        CHECK.due("open", posts.shut(8, 4, false), true);
        CHECK.due("two acts", posts.count(9), 2);
        CHECK.due("none is shut", posts.count(4), 0);
    }

    private static void fill() {
        for (int purse : new int[] {-1, 100, 5, Integer.MIN_VALUE, Integer.MAX_VALUE}) {
            TurnPosts posts = small();
            CHECK.refused("fill(0, " + purse + ")", posts, 1, () -> posts.fill(0, purse));
            CHECK.due("fill(0, " + purse + ")", posts.fill(0, purse), -1);
        }
        TurnPosts posts = full();
        CHECK.due("fill(7, 99) that holds it", posts.fill(7, 99), -1);
        CHECK.due("fill(7, 0)", posts.fill(7, 0), 99);
        CHECK.due("fill(7, 0) again", posts.fill(7, 0), -1);
        CHECK.due("fill(7, 1)", posts.fill(7, 1), 0);
        CHECK.due("fill(7, 99)", posts.fill(7, 99), 1);
        CHECK.due("three acts", posts.count(9), 3);
    }

    private static void set() {
        TurnPosts posts = full();
        CHECK.refused("set(7, 0) who is there", posts, 1, () -> posts.set(7, 0));
        CHECK.due("set(7, 0) who is there", posts.set(7, 0), -1);
        CHECK.due("set(7, 8)", posts.set(7, 8), 0);
        CHECK.due("set(7, 8) again", posts.set(7, 8), -1);
        CHECK.due("set(7, 0) from home", posts.set(7, 0), 8);
        CHECK.due("purses stay", posts.count(8), 792);
        CHECK.due("two acts", posts.count(9), 2);
    }

    /** No such one: it is thrown ahead of what is refused, and counts nowhere. */
    private static void noSuch() {
        for (int crossing : FAR_OFF) {
            TurnPosts posts = full();
            CHECK.noSuchAndStays("turn(" + crossing + ", 0)", posts, () -> posts.turn(crossing, 0));
            CHECK.noSuch("shut(" + crossing + ", 0, true)", () -> posts.shut(crossing, 0, true));
            CHECK.noSuch("shut(" + crossing + ", 0, false)", () -> posts.shut(crossing, 0, false));
            CHECK.noSuch("set(0, " + crossing + ")", () -> posts.set(0, crossing));
            CHECK.noSuchAndStays("see(0, " + crossing + ", 21)", posts, () -> posts.see(0, crossing, 21));
        }
        for (int road : new int[] {Integer.MIN_VALUE, -1, 5, Integer.MAX_VALUE}) {
            TurnPosts posts = full();
            CHECK.noSuchAndStays("turn(0, " + road + ")", posts, () -> posts.turn(0, road));
            CHECK.noSuch("shut(0, " + road + ", true)", () -> posts.shut(0, road, true));
            CHECK.noSuchAndStays("shut(0, " + road + ", false)", posts, () -> posts.shut(0, road, false));
        }
        for (int person : new int[] {Integer.MIN_VALUE, -1, 8, Integer.MAX_VALUE}) {
            TurnPosts posts = full();
            CHECK.noSuchAndStays("fill(" + person + ", 100)", posts, () -> posts.fill(person, 100));
            CHECK.noSuch("fill(" + person + ", 0)", () -> posts.fill(person, 0));
            CHECK.noSuch("set(" + person + ", 0)", () -> posts.set(person, 0));
            CHECK.noSuch("set(" + person + ", 9)", () -> posts.set(person, 9));
            CHECK.noSuchAndStays("see(" + person + ", 0, -1)", posts, () -> posts.see(person, 0, -1));
        }
        TurnPosts bare = Texts.of("crossing 0 0;");
        CHECK.noSuchAndStays("turn(0, 0) without roads", bare, () -> bare.turn(0, 0));
        CHECK.noSuchAndStays("shut(0, 0, false) without roads", bare, () -> bare.shut(0, 0, false));
    }

    // ---- promise 14

    /** Each sort of act alone is undone, and nothing else is. */
    private static void undo() {
        for (int sort = 0; sort < 6; sort++) {
            TurnPosts posts = small();
            posts.shut(1, 1, true);
            posts.see(0, 0, 0);
            String all = Texts.state(posts);
            act(posts, sort);
            CHECK.due("two acts", posts.count(9), 2);
            CHECK.due("undo() of sort " + sort, posts.undo(), 1);
            CHECK.same("as it was ahead of sort " + sort, Texts.state(posts), all);
            CHECK.due("undo() of the first", posts.undo(), 0);
            CHECK.due("open again", posts.road(1, 1, 1), 0);
            CHECK.due("what is seen isn't undone", posts.count(10), 1);
            String first = Texts.state(posts) + Texts.status(posts);
            CHECK.due("undo() of none", posts.undo(), -1);
            CHECK.same("nothing changes, no STATUS", Texts.state(posts) + Texts.status(posts), first);
        }
        TurnPosts refused = small();
        refused.turn(0, 1);
        refused.turn(0, 1);
        refused.days(0);
        CHECK.due("what is refused is no act", refused.undo(), 0);
        CHECK.due("the arm as it was", refused.crossing(0, 3), 0);
        CHECK.due("STATUS isn't undone", refused.count(13), 2);
    }

    private static void act(TurnPosts posts, int sort) {
        switch (sort) {
            case 0 -> posts.days(20);
            case 1 -> posts.turn(0, 1);
            case 2 -> posts.shut(0, 1, true);
            case 3 -> posts.shut(1, 1, false);
            case 4 -> posts.fill(0, 99);
            default -> posts.set(2, 0);
        }
    }

    /** 39, 40, 41 and 80 acts: the latest 40 are kept. */
    private static void manyActs() {
        for (int many : new int[] {39, 40, 41, 80, 81}) {
            TurnPosts posts = small();
            for (int i = 1; i <= many; i++) {
                posts.fill(0, i + 5);
                CHECK.due("kept", posts.count(9), Math.min(40, i));
            }
            int kept = Math.min(40, many);
            for (int i = 1; i <= kept; i++) {
                CHECK.due("undo() " + i + " of " + many, posts.undo(), kept - i);
                CHECK.due("the purse behind it", posts.person(0, 2), many - i + 5);
            }
            CHECK.due("undo() of no more", posts.undo(), -1);
            CHECK.due("the purse as it was ahead of those", posts.person(0, 2), many - kept + 5);
        }
        TurnPosts again = small();
        for (int i = 1; i <= 41; i++) {
            again.fill(0, i + 5);
        }
        CHECK.due("one back", again.undo(), 39);
        again.fill(1, 1);
        CHECK.due("and another one", again.count(9), 40);
        CHECK.due("which is undone first", again.undo(), 39);
        CHECK.due("the other purse", again.person(1, 2), 9);
        CHECK.due("and then the one ahead", again.undo(), 38);
        CHECK.due("the purse", again.person(0, 2), 44);
    }

    // ---- promises 45 and 46

    private static void image() {
        TurnPosts none = small();
        none.days(2);
        String all = Texts.state(none) + Texts.status(none);
        CHECK.due("restore() of none", none.restore(), false);
        CHECK.same("nothing changes", Texts.state(none) + Texts.status(none), all);
        for (int sort = 0; sort < 6; sort++) {
            TurnPosts posts = small();
            posts.shut(1, 1, true);
            posts.image();
            String then = Texts.state(posts);
            act(posts, sort);
            CHECK.due("restore() behind sort " + sort, posts.restore(), true);
            CHECK.same("as the image", Texts.state(posts), then);
            act(posts, sort);
            posts.image();
            String later = Texts.state(posts);
            posts.undo();
            CHECK.due("restore() in place of the other one", posts.restore(), true);
            CHECK.same("as the later image", Texts.state(posts), later);
            CHECK.due("its acts are undone", posts.undo(), 1);
            CHECK.same("as the first", Texts.state(posts), then);
        }
        TurnPosts seen = small();
        seen.see(0, 0, 0);
        seen.image();
        seen.see(0, 0, 21);
        seen.forget();
        seen.days(1);
        CHECK.due("restore()", seen.restore(), true);
        CHECK.due("what is seen", seen.count(10), 1);
        CHECK.due("the day", seen.count(2), 0);
        CHECK.due("acts", seen.undo(), -1);
        CHECK.due("STATUS isn't in an image", seen.count(14), 1);
        seen.feed(0, 0, 0, 0, 0);
        seen.restore();
        CHECK.due("nor is the tape", seen.count(11), 20);
        CHECK.due("a text with a fault", seen.shire(20), 1);
        CHECK.due("leaves the image", seen.restore(), true);
        CHECK.due("nor is the fault", seen.fault(), 0);
        CHECK.due("a text without", Texts.read(seen, Texts.SMALL), 0);
        CHECK.due("leaves none", seen.restore(), false);
    }

    private static void imageOfManyActs() {
        TurnPosts posts = small();
        for (int i = 1; i <= 45; i++) {
            posts.fill(0, i + 5);
        }
        posts.image();
        for (int i = 0; i < 43; i++) {
            posts.fill(1, i + 20);
        }
        CHECK.due("restore()", posts.restore(), true);
        for (int i = 1; i <= 40; i++) {
            CHECK.due("undo() " + i, posts.undo(), 40 - i);
            CHECK.due("the purse behind it", posts.person(0, 2), 50 - i);
        }
        CHECK.due("no more", posts.undo(), -1);
        CHECK.due("the other purse", posts.person(1, 2), 9);
        CHECK.due("restore() again", posts.restore(), true);
        CHECK.due("40 again", posts.count(9), 40);
        CHECK.due("the purse again", posts.person(0, 2), 50);
    }

    // ---- a DAY

    private static void stays() {
        TurnPosts home = Texts.of(TWO + "road 0 1;road 0 1;person 0 0 9;");
        home.days(20);
        CHECK.due("who is at home from the beginning stays", home.person(0, 0), 0);
        CHECK.due("and turns nothing", home.crossing(0, 3), 0);
        TurnPosts back = Texts.of(TWO + "road 0 1;road 1 0;person 0 1 9;");
        back.days(20);
        CHECK.due("who comes home stays", back.person(0, 0), 1);
        CHECK.due("one step", back.crossing(0, 3), 0);
        back.set(0, 0);
        back.days(1);
        CHECK.due("who is set back goes again", back.person(0, 0), 1);
        TurnPosts bare = Texts.of(TWO + "person 0 1 9;heeds 1;turns 9;");
        CHECK.due("without roads", bare.days(20), 20);
        CHECK.due("one stays", bare.person(0, 0), 0);
        CHECK.due("no arm to turn", bare.crossing(0, 3), 0);
        CHECK.due("nobody: the day is one more all the same", Texts.of("crossing 0 0;").days(1), 1);
        TurnPosts shut = Texts.of(TWO + "road 0 1;road 0 1;person 0 1 9;");
        shut.shut(0, 0, true);
        shut.days(1);
        CHECK.due("shut: one stays", shut.person(0, 0), 0);
        CHECK.due("shut: the arm is turned", shut.crossing(0, 3), 1);
        shut.days(1);
        CHECK.due("by the other road", shut.person(0, 0), 1);
        CHECK.due("round", shut.crossing(0, 3), 0);
        TurnPosts heedless = Texts.of(TWO + "road 0 1;road 0 1;person 0 1 9;heeds day;turns 1;");
        heedless.days(1);
        CHECK.due("heeds 0: one stays", heedless.person(0, 0), 0);
        CHECK.due("heeds 0: nothing is turned", heedless.crossing(0, 3), 0);
        heedless.days(1);
        CHECK.due("heeds 1: one goes", heedless.person(0, 0), 1);
        CHECK.due("heeds 1: the arm is turned", heedless.crossing(0, 3), 1);
    }

    /** The PURSE holds less than the TOLL, as much, more; of where the ROAD leads, not of where it begins. */
    private static void tolls() {
        for (int toll = 0; toll <= 9; toll += 3) {
            for (int purse = 0; purse <= 10; purse++) {
                TurnPosts posts = Texts.of("crossing 9 0;crossing " + toll + " 0;road 0 1;road 0 1;person 0 1 " + purse + ";");
                posts.days(1);
                boolean goes = purse >= toll;
                CHECK.due("toll " + toll + " of " + purse, posts.person(0, 0), goes ? 1 : 0);
                CHECK.due("what is left", posts.person(0, 2), goes ? purse - toll : purse);
                CHECK.due("the arm is turned", posts.crossing(0, 3), 1);
            }
        }
    }

    /** From each ARM by each TURN, kept to 0 to 9, round 1 to 5 ROADS. */
    private static void turns() {
        for (int roads = 1; roads <= 5; roads++) {
            for (int arm = 0; arm < roads; arm++) {
                for (int turn = -2; turn <= 12; turn++) {
                    String rule = turn < 0 ? "0-" + -turn : "" + turn;
                    TurnPosts posts = Texts.of(TWO + "road 0 1;".repeat(roads) + "arm 0 " + arm + ";person 0 1 0;turns " + rule + ";");
                    posts.days(1);
                    int kept = Math.max(0, Math.min(9, turn));
                    CHECK.due("turns " + rule + " from " + arm + " of " + roads, posts.crossing(0, 3), (arm + kept) % roads);
                }
            }
        }
        String fork = TWO + "road 0 1;".repeat(5) + "person 0 1 0;";
        TurnPosts most = Texts.of(fork + "turns 9999*9999*4;");
        most.days(1);
        CHECK.due("turns much", most.crossing(0, 3), 9999 * 9999 * 4 < 0 ? 0 : 4);
        TurnPosts least = Texts.of(fork + "turns 0-9999*9999;");
        least.days(1);
        CHECK.due("turns much below 0", least.crossing(0, 3), 0);
        TurnPosts without = Texts.of(fork);
        without.days(1);
        CHECK.due("without TURNS by 1", without.crossing(0, 3), 1);
        // By what is so ahead of one's going: the purse isn't paid from yet, and one stands there still.
        TurnPosts ahead = Texts.of("crossing 0 0;crossing 3 0;" + "road 0 1;".repeat(5) + "person 0 1 3;person 0 0 0;turns purse-with;");
        ahead.days(1);
        CHECK.due("turns by purse 3 less 1", ahead.crossing(0, 3), 2);
    }

    /** PERSON by PERSON: each by what is so at one's turn. */
    private static void oneBehindTheOther() {
        TurnPosts posts = Texts.of(Texts.FULL);
        posts.days(1);
        CHECK.due("eight turns of five roads", posts.crossing(0, 3), 3);
        CHECK.due("all have gone", posts.crossing(1, 4), 255);
        CHECK.due("all have paid", posts.count(8), 8 * 90);
        // Each one who goes leaves one fewer behind: who has at most 2 others goes.
        TurnPosts fewer = Texts.of(TWO + "road 0 1;" + "person 0 1 0;".repeat(4) + "heeds with < 3;");
        fewer.days(20);
        CHECK.due("four wait for one another", fewer.crossing(1, 4), 0);
        fewer.set(0, 1);
        fewer.days(1);
        CHECK.due("with one fewer all go", fewer.crossing(1, 4), 15);
        TurnPosts later = Texts.of(TWO + "road 0 1;" + "person 0 1 0;".repeat(3) + "heeds with < 2;");
        later.set(2, 1);
        later.days(1);
        CHECK.due("two go", later.crossing(1, 4), 7);
    }
}
