/** Promises 1 to 4: a new object, feed, shire, fault; and the language. */
final class TextTest {
    private static final Check CHECK = new Check();
    private static final String TWO = "crossing 0 0;crossing 0 0;";

    public static void main(String[] args) {
        newObject();
        feed();
        shire();
        anew();
        lines();
        expressions();
        depth();
        values();
        CHECK.end("TextTest");
    }

    private static void fault(String text, int kind, int place) {
        TurnPosts posts = new TurnPosts();
        CHECK.due("shire of " + text, Texts.read(posts, text), kind);
        CHECK.due("fault() of " + text, posts.fault(), place);
        CHECK.due("count(12) of " + text, posts.count(12), kind == 0 ? 0 : 1);
    }

    private static void fine(String text) {
        fault(text, 0, -1);
    }

    private static void newObject() {
        TurnPosts posts = new TurnPosts();
        CHECK.due("NONE", TurnPosts.NONE, -1);
        for (int what = 0; what <= 14; what++) {
            CHECK.due("new count(" + what + ")", posts.count(what), 0);
        }
        CHECK.due("new fault()", posts.fault(), -1);
        CHECK.noSuch("new crossing(0, 0)", () -> posts.crossing(0, 0));
        CHECK.noSuch("new person(0, 0)", () -> posts.person(0, 0));
        CHECK.due("new restore()", posts.restore(), false);
        CHECK.due("new undo()", posts.undo(), -1);
    }

    private static void feed() {
        TurnPosts posts = new TurnPosts();
        CHECK.illegal("shire(1) of nothing", () -> posts.shire(1));
        CHECK.illegal("shire(-1)", () -> posts.shire(-1));
        for (int i = 1; i <= 35; i++) {
            CHECK.due("feed " + i, posts.feed(0x20202020, 0x20202020, 0x20202020, 0x20202020, 0x20202020), 20 * i);
        }
        CHECK.due("feed 36", posts.feed(0, 0, 0, 0, 0), -1);
        CHECK.due("count(11)", posts.count(11), 700);
        CHECK.illegal("shire(701)", () -> posts.shire(701));
        CHECK.illegal("shire of the least", () -> posts.shire(Integer.MIN_VALUE));
        CHECK.due("count(11) behind refusals", posts.count(11), 700);
        CHECK.due("shire(700)", posts.shire(700), 0);
        CHECK.due("count(11) behind shire", posts.count(11), 0);
        // Bytes above 127, and the highest first: "cros", then -1 as four bytes of 255.
        posts.feed(0x63726f73, 0x73696e67, -1, 0, 0);
        CHECK.due("shire of a byte 255", posts.shire(20), 1);
        CHECK.due("its place", posts.fault(), 8);
        CHECK.due("count(11) behind a fault", posts.count(11), 0);
    }

    private static void shire() {
        TurnPosts posts = Texts.of(Texts.SMALL);
        posts.days(3);
        posts.turn(0, posts.crossing(0, 3) == 0 ? 1 : 0);
        posts.see(0, 0, 0);
        posts.image();
        int where = posts.person(0, 0);
        CHECK.due("a fault", Texts.read(posts, "crossing 0 0; crossing 0 x"), 1);
        CHECK.due("its place", posts.fault(), 25);
        CHECK.due("crossings stay", posts.count(0), 4);
        CHECK.due("people stay", posts.count(1), 3);
        CHECK.due("the day stays", posts.count(2), 3);
        CHECK.due("acts stay", posts.count(9), 2);
        CHECK.due("what is seen stays", posts.count(10), 1);
        CHECK.due("one stays", posts.person(0, 0), where);
        CHECK.due("the image stays", posts.restore(), true);
        CHECK.illegal("too many bytes", () -> posts.shire(1));
        CHECK.due("fault() stays then", posts.fault(), 25);
        posts.days(0);
        posts.see(0, 0, -1);
        CHECK.due("the first bytes alone", readFirst(posts, "crossing 3 1;crossing 0 x", 13), 0);
        CHECK.due("no fault", posts.fault(), -1);
        TurnPosts cut = new TurnPosts();
        CHECK.due("a number is cut", readFirst(cut, "crossing 0 123;", 12), 1);
        CHECK.due("where the text ends", cut.fault(), 12);
        CHECK.due("a word is cut", readFirst(cut, "heeds 1;turnsx", 13), 1);
        CHECK.due("where that text ends", cut.fault(), 13);
        CHECK.due("one crossing", posts.count(0), 1);
        CHECK.due("nobody", posts.count(1), 0);
        CHECK.due("day 0", posts.count(2), 0);
        CHECK.due("no roads", posts.count(3), 0);
        CHECK.due("no acts", posts.count(9), 0);
        CHECK.due("nothing seen", posts.count(10), 0);
        CHECK.due("tape is empty", posts.count(11), 0);
        CHECK.due("no image", posts.restore(), false);
        CHECK.due("texts refused", posts.count(12), 1);
        CHECK.due("acts refused", posts.count(13), 1);
        CHECK.due("sights refused", posts.count(14), 1);
        CHECK.due("shire(0)", posts.shire(0), 0);
        CHECK.due("all gone", posts.count(0), 0);
    }

    /** Nothing of an earlier text is left in a later one. */
    private static void anew() {
        TurnPosts posts = new TurnPosts();
        String full = "crossing 9 1;crossing 9 1;road 0 1;road 0 1;road 1 0;arm 0 1;person 0 1 99;person 1 0 98;heeds 0;turns 0;";
        Texts.read(posts, full);
        Texts.read(posts, full);
        Texts.read(posts, full + "x");
        CHECK.due("a bare one", Texts.read(posts, "crossing 0 0;crossing 0 0;road 0 1;road 0 1;person 0 1 0;"), 0);
        CHECK.due("arm", posts.crossing(0, 3), 0);
        CHECK.due("roads", posts.count(3), 2);
        CHECK.due("people", posts.count(1), 1);
        CHECK.due("purses", posts.count(8), 0);
        CHECK.due("goes without heeds", posts.then(0, 1, 0), 1);
        CHECK.due("turns by 1", posts.points(0, 1), 1);
        CHECK.due("an arm may be told again", Texts.read(posts, full), 0);
    }

    private static int readFirst(TurnPosts posts, String text, int n) {
        Texts.feed(posts, text);
        return posts.shire(n);
    }

    private static void lines() {
        fine("");
        fine(" \n ");
        fine("crossing0 0;crossing\n9 1;road 0 1;person 1 0 99;arm 0 0;heeds 1;turns 1;");
        fine("crossing 0009 0001;");
        fault("crossing 00000 0;", 2, 9);
        fault("\tcrossing 0 0;", 1, 0);
        fault("Crossing 0 0;", 1, 0);
        fault("crossings 0 0;", 1, 0);
        fault("frossing 0 0;", 1, 0);
        fault("crossinh 0 0;", 1, 0);
        fault("12345 0 0;", 1, 0);
        fault(";", 1, 0);
        fault("crossing 0 0", 1, 12);
        fault("crossing 0 0  ", 1, 14);
        fault("crossing", 1, 8);
        fault("crossing x 0;", 1, 9);
        fault("crossing 0 0 0;", 1, 13);
        fault("crossing 0 0 99999;", 1, 13);
        fault("crossing 12345 0;", 2, 9);
        fault("crossing 10 0;", 2, 9);
        fault("crossing 9 2;", 2, 11);
        fault("crossing -1 0;", 1, 9);
        fault("crossing 0 0;$", 1, 13);
        fault(TWO + "road 0 1 road", 1, 35);
        fault(TWO + "road 2 0;", 3, 31);
        fault(TWO + "road 0 9999;", 3, 33);
        fault(TWO + "road 0 99999;", 2, 33);
        fault(TWO + "road 1 1;", 4, 33);
        fine(TWO + "road 0 1;road 0 1;road 0 1;road 0 1;road 0 1;road 1 0;");
        fault(TWO + "road 0 1;road 0 1;road 0 1;road 0 1;road 0 1;road 0 0;", 4, 76);
        fault(TWO + "person 2 0 0;", 3, 33);
        fault(TWO + "person 1 2 0;", 3, 35);
        fault(TWO + "person 1 0 100;", 2, 37);
        fault(TWO + "person 1 0;", 1, 36);
        fault(TWO + "road 0 1;arm 1 0;", 3, 41);
        fault(TWO + "road 0 1;arm 2 0;", 3, 39);
        fault(TWO + "road 0 1;arm 0 1;", 3, 41);
        fault(TWO + "road 0 1;arm 0 12345;", 2, 41);
        fault(TWO + "road 0 1;road 0 1;arm 0 1;arm 0 1;", 5, 56);
        fault(TWO + "road 0 1;road 1 0;arm 0 0;arm 1 0;arm 1 x;", 5, 64);
        fault("heeds 1;heeds 2;", 5, 8);
        fault("turns 1;turns", 5, 8);
        fine("turns 1;heeds 2;");
        String nine = "crossing 0 0;".repeat(9);
        fine(nine);
        fault(nine + "crossing x;", 2, 117);
        fault(nine + "crossings x;", 1, 117);
        String eight = "crossing 0 0;" + "person 0 0 1;".repeat(8);
        fine(eight);
        fault(eight + "person", 2, 117);
    }

    private static void expressions() {
        fine("heeds not not not not not not 1;");
        fault("heeds not not not not not not not 1;", 2, 30);
        fault("heeds not not not not not not foo;", 3, 30);
        fine("heeds not not not not (not not not arm);");
        fine("heeds not 1 and not not 1 or not 1;");
        fine("heeds 1 < 2 and 3 = 4 or 5;");
        fault("heeds 1 < 2 < 3;", 1, 12);
        fault("heeds 1 = 2 = 3;", 1, 12);
        fine("heeds (1 < 2) < 3;");
        fault("heeds 1 < not 2;", 3, 10);
        fault("heeds 1 + not 2;", 3, 10);
        fault("heeds ;", 1, 6);
        fault("heeds", 1, 5);
        fault("heeds -1;", 1, 6);
        fault("heeds 1 +;", 1, 9);
        fault("heeds 1 2;", 1, 8);
        fault("heeds 1 arm;", 1, 8);
        fault("heeds 1 12345;", 1, 8);
        fault("heeds 12345;", 2, 6);
        fault("heeds 00001;", 2, 6);
        fine("heeds 9999;");
        fault("heeds foo;", 3, 6);
        fault("heeds crossing;", 3, 6);
        fault("heeds or 1;", 3, 6);
        fault("heeds 1 and and 1;", 3, 12);
        fault("heeds not;", 1, 9);
        fault("heeds 1);", 1, 7);
        fault("heeds (1;", 1, 8);
        fault("heeds ();", 1, 7);
        fault("heeds (1 2);", 1, 9);
        fault("heeds 1 > 2;", 1, 8);
        fault("heeds (1", 1, 8);
        fine("turns arm+roads-purse*with/day;");
        fault("turns arms;", 3, 6);
        fault("turns bay;", 3, 6);
        fine("turns " + "1+".repeat(346) + "1;");
    }

    private static void depth() {
        fine("heeds (((((1)))));");
        fault("heeds ((((((1))))));", 2, 12);
        fault("heeds ((((((arm))))));", 2, 12);
        fault("heeds ((((((foo))))));", 2, 12);
        fault("heeds ((((((not 1))))));", 2, 12);
        fault("heeds (((((((", 2, 12);
        fault("heeds ((((((12345", 2, 12);
        fault("heeds ((((((", 1, 12);
        fault("heeds (((((()", 1, 12);
        fault("heeds ((((((+", 1, 12);
        fault("heeds ((((((;", 1, 12);
        fine("heeds (((((1))))) + (((((1)))));");
        fault("heeds (((((1 + (2", 2, 16);
    }

    /** By how far one arm of ten turned days goes: turns is kept to 0 to 9, and 5 roads go round. */
    private static int turn(String rule, String arm) {
        TurnPosts posts = Texts.of("crossing 0 0;crossing 0 0;" + "road 0 1;".repeat(5) + "arm 0 " + arm + ";person 0 1 7;person 0 0 1;"
                + "person 0 0 0;turns " + rule + ";");
        return Math.floorMod(posts.points(0, 1) - Integer.parseInt(arm), 5);
    }

    private static boolean heeds(String rule) {
        TurnPosts posts = Texts.of("crossing 0 0;crossing 0 0;" + "road 0 1;".repeat(5) + "arm 0 3;person 0 1 7;person 0 0 1;"
                + "person 0 0 0;heeds " + rule + ";");
        return posts.then(0, 1, 0) == 1;
    }

    private static void values() {
        CHECK.due("turns 2", turn("2", "0"), 2);
        CHECK.due("turns 9", turn("9", "1"), 4);
        CHECK.due("turns 12 is kept to 9", turn("12", "1"), 4);
        CHECK.due("turns below 0 is kept to 0", turn("0-2", "1"), 0);
        CHECK.due("turns arm", turn("arm", "3"), 3);
        CHECK.due("turns roads", turn("roads - 3", "4"), 2);
        CHECK.due("turns purse ahead of one's going", turn("purse-4", "0"), 3);
        CHECK.due("turns with ahead of one's going", turn("with", "0"), 2);
        CHECK.due("turns day", turn("day+1", "0"), 1);
        CHECK.due("from the left -", turn("9-4-3", "0"), 2);
        CHECK.due("from the left /", turn("24/4/2", "0"), 3);
        CHECK.due("* ahead of +", turn("1+1*2", "0"), 3);
        CHECK.due("parentheses", turn("(1+1)*2", "0"), 4);
        CHECK.due("/ by 0", turn("3+5/0", "0"), 3);
        CHECK.due("/ is cut down to 0", turn("3+(0-3)/2", "0"), 2);
        CHECK.due("ints wrap", turn("(9999*9999*9999 < 0) + 2", "0"), 3 - (9999 * 9999 * 9999 < 0 ? 0 : 1));
        CHECK.due("ints that wrap to 1", turn("2 * (1024*1024*1024*4 = 0)", "0"), 2);
        CHECK.due("least / -1", turn("3 * (1024*1024*1024*2/(0-1) < 0)", "0"), 3);
        CHECK.due("a test is 1", turn("3 * (2 < 3)", "0"), 3);
        CHECK.due("a test is 0", turn("3 * (3 < 3) + 1", "0"), 1);
        CHECK.due("= is 1", turn("(3 = 3) + (3 = 4)", "0"), 1);
        CHECK.due("not 5 is 0", turn("(not 5) + 2", "0"), 2);
        CHECK.due("not 0 is 1", turn("(not 0) + 2", "0"), 3);
        CHECK.due("not goes round a test", turn("1 + (not 2 = 2)", "0"), 1);
        CHECK.due("not not 7 is 1", turn("not not 7", "0"), 1);
        CHECK.due("and is 1", turn("7 and 3", "0"), 1);
        CHECK.due("and holds below 0", turn("(0-7) and 3", "0"), 1);
        CHECK.due("or is 1", turn("0 or 3", "0"), 1);
        CHECK.due("or of none", turn("(0 or 0) + 2", "0"), 2);
        CHECK.due("and ahead of or", turn("1 or 0 and 0", "0"), 1);
        CHECK.due("one number stays", turn("3", "0"), 3);
        CHECK.due("heeds 1", heeds("1"), true);
        CHECK.due("heeds 0", heeds("0"), false);
        CHECK.due("heeds below 0", heeds("0-1"), false);
        CHECK.due("heeds arm = 3", heeds("arm = 3"), true);
        CHECK.due("heeds purse = 7 and with = 2", heeds("purse = 7 and with = 2 and roads = 5 and day = 0"), true);
    }
}
