/** The edges that promises 25 to 31 name: what is SEEN, TURNED, LOOK NEXT, WIND, a GAME, YEARS. */
final class EdgesOfChanceTest {
    private static final Check CHECK = new Check();
    private static final int[] FAR_OFF = {Integer.MIN_VALUE, -1, Integer.MAX_VALUE};
    private static final String TWO = "crossing 0 0;crossing 0 0;";
    private static final String THREE = TWO + "crossing 0 0;";
    private static final String FOUR = THREE + "crossing 9 0;";

    public static void main(String[] args) {
        noSuch();
        changesNothing();
        see();
        forget();
        turned();
        turnedBySeen();
        look();
        windArguments();
        wind();
        gameArguments();
        game();
        gains();
        yearsArguments();
        yearsOfEight();
        years();
        CHECK.end("EdgesOfChanceTest");
    }

    private static TurnPosts small() {
        return Texts.of(Texts.SMALL);
    }

    private static void noSuch() {
        TurnPosts posts = small();
        for (int far : FAR_OFF) {
            CHECK.noSuch("turned " + far, () -> posts.turned(far));
            CHECK.noSuch("look " + far, () -> posts.look(far));
            CHECK.noSuch("wind of " + far, () -> posts.wind(far, 1, 0));
            CHECK.noSuch("wind of " + far + " and no days", () -> posts.wind(far, 0, 11));
            CHECK.noSuch("game of " + far, () -> posts.game(far, 0, 0));
            CHECK.noSuch("game with " + far, () -> posts.game(0, far, 0));
            CHECK.noSuch("game of " + far + " with itself", () -> posts.game(far, far, 0));
            CHECK.noSuch("game what " + far, () -> posts.game(0, 1, far));
            CHECK.noSuch("years what " + far, () -> posts.years(0, 0, far));
            CHECK.noSuch("years what " + far + " and too many days", () -> posts.years(0, 101, far));
        }
        CHECK.noSuch("turned 3", () -> posts.turned(3));
        CHECK.noSuch("turned 3 of nothing", () -> new TurnPosts().turned(3));
        CHECK.noSuch("look 2", () -> posts.look(2));
        CHECK.noSuch("look 2 of nothing", () -> new TurnPosts().look(2));
        CHECK.noSuch("wind of 3", () -> posts.wind(3, 6, 5));
        CHECK.noSuch("game of 3", () -> posts.game(3, 0, 0));
        CHECK.noSuch("game with 3", () -> posts.game(0, 3, 0));
        CHECK.noSuch("game what 2", () -> posts.game(0, 1, 2));
        CHECK.noSuch("game of one with itself, what 2", () -> posts.game(0, 0, 2));
        CHECK.noSuch("years what 3", () -> posts.years(0, -1, 3));
    }

    private static void changesNothing() {
        TurnPosts posts = small();
        posts.days(1);
        posts.see(0, 1, 0);
        String all = Texts.state(posts) + Texts.status(posts);
        for (int what = 0; what < 2; what++) {
            posts.turned(what);
            posts.look(what);
            posts.game(0, 1, what);
            posts.years(7, 100, what);
        }
        posts.turned(2);
        posts.years(7, 100, 2);
        posts.wind(0, 5, 5);
        CHECK.illegal("wind(0, 6, 5)", () -> posts.wind(0, 6, 5));
        CHECK.illegal("game(0, 0, 0)", () -> posts.game(0, 0, 0));
        CHECK.illegal("years(0, 101, 0)", () -> posts.years(0, 101, 0));
        CHECK.same("nothing changes", Texts.state(posts) + Texts.status(posts), all);
    }

    // ---- promises 25 and 26

    private static void see() {
        for (int days : new int[] {-1, 21, Integer.MIN_VALUE, Integer.MAX_VALUE}) {
            TurnPosts posts = small();
            CHECK.refused("see(0, 0, " + days + ")", posts, 2, () -> posts.see(0, 0, days));
            CHECK.due("see(0, 0, " + days + ")", posts.see(0, 0, days), -1);
        }
        TurnPosts posts = small();
        CHECK.due("behind 0", posts.see(0, 0, 0), 1);
        CHECK.due("behind 20", posts.see(2, 3, 20), 2);
        for (int i = 3; i <= 8; i++) {
            CHECK.due("the same once more", posts.see(2, 3, 20), i);
        }
        CHECK.refused("the ninth", posts, 2, () -> posts.see(0, 0, 0));
        CHECK.due("the ninth", posts.see(0, 0, 0), -1);
        CHECK.due("the ninth, and too many days", posts.see(0, 0, 21), -1);
        CHECK.due("three refused", posts.count(14), 3);
        CHECK.due("eight", posts.count(10), 8);
        CHECK.due("no act", posts.count(9), 0);
        CHECK.due("no act is refused", posts.count(13), 0);
    }

    private static void forget() {
        TurnPosts posts = small();
        String all = Texts.state(posts) + Texts.status(posts);
        posts.forget();
        CHECK.same("nothing to forget", Texts.state(posts) + Texts.status(posts), all);
        for (int round = 0; round < 2; round++) {
            for (int i = 1; i <= 8; i++) {
                CHECK.due("seen", posts.see(0, 3, 0), i);
            }
            CHECK.due("isn't so", posts.turned(2), 0);
            posts.forget();
            CHECK.due("all is forgotten", posts.count(10), 0);
            CHECK.due("all is so", posts.turned(2), 1);
        }
        posts.see(0, 0, 0);
        CHECK.due("what is forgotten doesn't come back", posts.turned(2), 1);
    }

    // ---- promise 27

    private static void turnedIs(String name, TurnPosts posts, int many, int first, int without) {
        CHECK.due(name + ": how many", posts.turned(0), many);
        CHECK.due(name + ": the first", posts.turned(1), first);
        CHECK.due(name + ": without", posts.turned(2), without);
    }

    private static void turned() {
        turnedIs("nothing", new TurnPosts(), 0, -1, 1);
        turnedIs("no roads", Texts.of(TWO), 0, -1, 1);
        turnedIs("one road each", Texts.of(TWO + "road 0 1;road 1 0;"), 0, -1, 1);
        turnedIs("five roads", Texts.of(TWO + "road 1 0;".repeat(5)), 4, 11, 1);
        turnedIs("all", Texts.of(Texts.FULL), 36, 1, 1);
        turnedIs("the last road alone", Texts.of("crossing 0 0;".repeat(9) + "road 8 0;road 8 1;"), 1, 81, 1);
        TurnPosts zero = Texts.of(TWO + "road 0 1;road 0 1;arm 0 1;");
        turnedIs("road 0, if the arm points to 1", zero, 1, 0, 1);
        zero.shut(0, 0, true);
        turnedIs("shut or not", zero, 1, 0, 1);
        zero.turn(0, 0);
        turnedIs("another one than that to which it points", zero, 1, 1, 1);
    }

    private static void turnedBySeen() {
        String fork = THREE + "crossing 0 0;road 0 1;road 0 2;road 0 3;road 0 2;person 0 2 0;turns 0;";
        TurnPosts posts = Texts.of(fork);
        posts.see(0, 2, 1);
        turnedIs("two lead there", posts, 2, 1, 0);
        posts.see(0, 0, 0);
        turnedIs("now, too", posts, 2, 1, 0);
        posts.see(0, 2, 20);
        turnedIs("behind 20, too", posts, 2, 1, 0);
        posts.see(0, 3, 1);
        turnedIs("two at once", posts, 0, -1, 0);
        TurnPosts so = Texts.of(fork);
        so.see(0, 1, 1);
        turnedIs("it is so without, and by none", so, 0, -1, 1);
        so.turn(0, 2);
        turnedIs("by road 0", so, 1, 0, 0);
        TurnPosts last = Texts.of(TWO + "road 0 1;road 0 1;person 0 1 0;heeds day = 19;");
        last.see(0, 1, 20);
        turnedIs("on the 20th day", last, 1, 1, 1);
        last.see(0, 0, 19);
        turnedIs("not on the 19th", last, 1, 1, 1);
        last.see(0, 1, 19);
        turnedIs("not so", last, 0, -1, 0);
        // The last crossing's last road, and the last one of eight.
        TurnPosts far = Texts.of("crossing 0 0;".repeat(9) + "road 8 0;".repeat(4) + "road 8 7;" + "person 8 7 0;".repeat(8) + "turns 0;");
        far.see(7, 7, 1);
        turnedIs("by 84", far, 1, 84, 0);
        TurnPosts later = Texts.of(TWO + "road 0 1;person 0 1 0;");
        later.see(0, 0, 0);
        CHECK.due("so now", later.turned(2), 1);
        later.days(1);
        CHECK.due("from now on: no more", later.turned(2), 0);
        later.undo();
        CHECK.due("undone: so again", later.turned(2), 1);
    }

    // ---- promise 28

    private static void looks(String name, TurnPosts posts, int who, int many) {
        CHECK.due(name + ": who", posts.look(0), who);
        CHECK.due(name + ": how many", posts.look(1), many);
    }

    private static void look() {
        looks("nothing", new TurnPosts(), -1, 0);
        looks("nobody", Texts.of(TWO + "road 0 1;road 0 1;"), -1, 0);
        looks("no roads", Texts.of(TWO + "person 0 1 0;"), -1, 0);
        looks("one road", Texts.of(TWO + "road 0 1;person 0 1 0;"), -1, 0);
        looks("all go alike", Texts.of(Texts.FULL), 0, 1);
        looks("of like ones the least", Texts.of(TWO + "road 0 1;road 0 1;person 0 0 0;person 0 1 0;"), 0, 1);
        String fork = "crossing 0 0;".repeat(6) + "road 0 1;road 0 2;road 0 3;road 0 4;road 0 5;turns 0;";
        TurnPosts posts = Texts.of(fork + "person 1 1 0;".repeat(7) + "person 0 5 0;");
        looks("the last one, at four", posts, 7, 4);
        posts.turn(0, 4);
        looks("at four others", posts, 7, 4);
        posts.see(7, 1, 1);
        looks("at one only: all alike", posts, 0, 1);
        posts.see(7, 2, 1);
        looks("none", posts, -1, 0);
        String two = "crossing 0 0;".repeat(4) + "road 0 1;road 0 2;road 0 3;turns 0;person 0 0 0;person 0 1 0;heeds day = ";
        looks("a step on the 6th day", Texts.of(two + "5;"), 1, 2);
        looks("a step on the 7th day", Texts.of(two + "6;"), 0, 1);
        // By road 0, where the arm points to 1: to another crossing than by road 2.
        TurnPosts zero = Texts.of("crossing 0 0;".repeat(4) + "road 0 1;road 0 2;road 0 3;turns 0;arm 0 1;person 0 0 0;person 0 1 0;");
        looks("by road 0 and by road 2", zero, 1, 2);
    }

    // ---- promise 29

    private static void windArguments() {
        TurnPosts posts = small();
        for (int days : new int[] {0, -1, 6, Integer.MIN_VALUE, Integer.MAX_VALUE}) {
            CHECK.illegal("wind of " + days + " days", () -> posts.wind(0, days, 5));
        }
        for (int tenths : new int[] {-1, 11, Integer.MIN_VALUE, Integer.MAX_VALUE}) {
            CHECK.illegal("wind with " + tenths + " tenths", () -> posts.wind(0, 1, tenths));
        }
        for (int tenths = 0; tenths <= 10; tenths++) {
            int power = 1;
            for (int days = 1; days <= 5; days++) {
                power *= 10;
                CHECK.due("at home by " + tenths + " on " + days, posts.wind(2, days, tenths), power);
            }
        }
    }

    private static void wind() {
        // Road 0 is too dear, road 1 leads home: a day without wind is needed ahead of the last one.
        String text = "crossing 0 0;crossing 9 0;crossing 0 0;road 0 1;road 0 2;person 0 2 0;";
        for (int tenths = 0; tenths <= 10; tenths++) {
            TurnPosts posts = Texts.of(text);
            CHECK.due("one day", posts.wind(0, 1, tenths), 0);
            CHECK.due("two days", posts.wind(0, 2, tenths), (10 - tenths) * 10);
            CHECK.due("three days", posts.wind(0, 3, tenths), (100 - tenths * tenths) * 10);
            CHECK.due("five days", posts.wind(0, 5, tenths), (10000 - tenths * tenths * tenths * tenths) * 10);
            posts.turn(0, 1);
            CHECK.due("the arm points home", posts.wind(0, 1, tenths), 10);
            posts.fill(0, 9);
            posts.turn(0, 0);
            CHECK.due("gone by the dear road", posts.wind(0, 5, tenths), 0);
        }
        // Only by wind: the second one goes home, if the first one doesn't turn the arm.
        TurnPosts held = Texts.of(THREE + "road 0 1;road 0 2;person 0 1 0;person 0 1 0;");
        for (int tenths = 0; tenths <= 10; tenths++) {
            CHECK.due("wind holds the arm", held.wind(1, 1, tenths), tenths);
        }
        // All else as ever: tolls are paid, the day goes on.
        TurnPosts tolls = Texts.of("crossing 0 0;crossing 5 0;crossing 5 0;road 0 1;road 1 2;person 0 2 9;");
        CHECK.due("tolls are paid by wind, too", tolls.wind(0, 5, 10), 0);
        tolls.fill(0, 10);
        CHECK.due("just enough", tolls.wind(0, 2, 10), 100);
        TurnPosts day = Texts.of(TWO + "road 0 1;person 0 1 9;heeds day = 4;");
        CHECK.due("days go on by wind", day.wind(0, 5, 10), 100000);
        CHECK.due("not within four", day.wind(0, 4, 10), 0);
    }

    // ---- promise 30

    private static void gameArguments() {
        TurnPosts posts = small();
        for (int what = 0; what < 2; what++) {
            int asked = what;
            CHECK.illegal("one with itself", () -> posts.game(0, 0, asked));
            CHECK.illegal("one who is at home with itself", () -> posts.game(2, 2, asked));
            CHECK.due("the other one is at home", posts.game(0, 2, what), -1);
            CHECK.due("the first one is at home", posts.game(2, 0, what), -1);
        }
        posts.set(0, 3);
        CHECK.due("both are at home", posts.game(0, 2, 0), -1);
        TurnPosts none = Texts.of(Texts.SMALL);
        CHECK.due("no couple rests", none.game(0, 1, 0), 0);
        CHECK.due("no first one", none.game(0, 1, 1), -1);
    }

    private static void rest(String name, TurnPosts posts, int many, int first) {
        CHECK.due(name + ": how many", posts.game(0, 1, 0), many);
        CHECK.due(name + ": the first", posts.game(0, 1, 1), first);
        CHECK.due(name + ": how many the other way round", posts.game(1, 0, 0), many);
    }

    /** Person 0 of two is the only one to whom it matters: the same choice, told as the first one's and as the other one's. */
    private static void restOfOne(String name, TurnPosts posts, int many, int first) {
        rest(name, posts, many, first);
        CHECK.due(name + ": as the other one", posts.game(1, 0, 1), first / 10);
    }

    private static void game() {
        rest("no roads: to turn costs 1 all the same", Texts.of(TWO + "person 0 1 0;person 0 1 0;"), 1, 0);
        rest("one road: to turn costs 1", Texts.of(TWO + "road 0 1;person 0 1 0;person 0 1 0;"), 1, 0);
        rest("a full shire", Texts.of(Texts.FULL), 1, 0);
        // Each at a post whose road 0 is too dear and whose road 1 leads home: both turn.
        String dear = FOUR + "road 0 3;road 0 2;road 1 3;road 1 2;person 0 2 0;";
        rest("both turn", Texts.of(dear + "person 1 2 0;turns 0;"), 1, 11);
        // Round: from the last road on to the first.
        TurnPosts round = Texts.of(FOUR + "road 0 2;road 0 3;road 1 2;road 1 3;arm 0 1;arm 1 1;person 0 2 0;person 1 2 0;turns 0;");
        rest("both turn round", round, 1, 11);
        round.turn(0, 0);
        rest("the other one alone", round, 1, 1);
        round.turn(0, 1);
        round.turn(1, 0);
        rest("the first one alone", round, 1, 10);
        round.turn(0, 0);
        rest("neither", round, 1, 0);
        // Both at one post: by one turn both come home, by two neither does.
        rest("either one", Texts.of(dear + "person 0 2 0;turns 0;"), 2, 1);
        // Three roads, home by the third: only both together come there; by one turn, one has but lost it.
        rest("both or neither", Texts.of(FOUR + "road 0 3;road 0 3;road 0 2;person 0 2 0;person 0 2 0;turns 0;"), 2, 0);
    }

    /** 3 for a day at home of 8, less steps, less 1 for a turn; the other one stands still. */
    private static void gains() {
        String still = "person 2 0 0;turns 0;";
        String road = FOUR + "road 0 3;road 0 1;person 0 1 0;" + still;
        restOfOne("home on the 8th day: 3 - 1 - 1", Texts.of(road + "heeds day = 7;"), 1, 10);
        restOfOne("home on the 9th day", Texts.of(road + "heeds day = 8;"), 1, 0);
        // Two steps to be home on the 8th day: 3 - 2 - 1 is as good as nothing.
        String two = "crossing 0 0;".repeat(4) + "crossing 9 0;road 0 4;road 0 3;road 3 1;person 0 1 0;" + still;
        restOfOne("two steps for one day", Texts.of(two + "heeds 5 < day;"), 2, 0);
        restOfOne("two steps for two days", Texts.of(two + "heeds 4 < day;"), 1, 10);
        // Three steps for one day: 3 - 3 - 1 is worse than nothing.
        String three = "crossing 0 0;".repeat(5) + "crossing 9 0;road 0 5;road 0 3;road 3 4;road 4 1;person 0 1 0;" + still;
        restOfOne("three steps for one day", Texts.of(three + "heeds 4 < day;"), 1, 0);
        restOfOne("three steps for two days", Texts.of(three + "heeds 3 < day;"), 1, 10);
        // To be home a day sooner by one step fewer is 4, less 1.
        TurnPosts sooner = Texts.of(FOUR + "road 0 3;road 0 1;road 3 1;person 0 1 99;" + still);
        restOfOne("a day sooner", sooner, 1, 10);
    }

    // ---- promise 31

    private static void yearsArguments() {
        TurnPosts posts = small();
        for (int what = 0; what < 3; what++) {
            int asked = what;
            for (int n : new int[] {-1, 101, Integer.MIN_VALUE, Integer.MAX_VALUE}) {
                CHECK.illegal("years of " + n, () -> posts.years(1, n, asked));
            }
        }
        for (int seed : new int[] {0, 1, -1, Integer.MIN_VALUE, Integer.MAX_VALUE}) {
            CHECK.due("no days: steps", posts.years(seed, 0, 0), 0);
            CHECK.due("no days: home", posts.years(seed, 0, 1), 1);
            CHECK.due("no days: purses", posts.years(seed, 0, 2), 14);
            CHECK.due("nothing: steps", new TurnPosts().years(seed, 100, 0), 0);
            CHECK.due("nothing: home", new TurnPosts().years(seed, 100, 1), 0);
            CHECK.due("nothing: purses", new TurnPosts().years(seed, 100, 2), 0);
            TurnPosts nobody = Texts.of(TWO + "road 0 1;");
            CHECK.due("nobody: steps", nobody.years(seed, 100, 0), 0);
            CHECK.due("nobody: home", nobody.years(seed, 100, 1), 0);
            CHECK.due("nobody: purses", nobody.years(seed, 100, 2), 0);
            TurnPosts one = Texts.of("crossing 0 0;person 0 0 99;");
            CHECK.due("one crossing: steps", one.years(seed, 100, 0), 0);
            CHECK.due("one crossing: home", one.years(seed, 100, 1), 1);
            CHECK.due("one crossing: purses", one.years(seed, 100, 2), 99);
        }
    }

    /** The row of draws by longs: bits 16 to 30 of the seed MOD n. */
    private static final class Row {
        private long seed;

        private Row(int first) {
            seed = first;
        }

        private int draw(int n) {
            seed = (int) (seed * 1103515245L + 12345L);
            return (int) ((seed & 0xffffffffL) % 0x80000000L / 0x10000L % n);
        }
    }

    /** Days ahead of which nothing is turned or set: all of eight go their way, and all of nine arms stay as they were. */
    private static void yearsOfEight() {
        TurnPosts posts = Texts.of(Texts.FULL);
        CHECK.due("no days: steps of eight", posts.years(3, 0, 0), 0);
        CHECK.due("no days: home of eight", posts.years(3, 0, 1), 0);
        CHECK.due("no days: purses of eight", posts.years(3, 0, 2), 792);
        int quiet = 0;
        for (int seed = 0; seed < 40; seed++) {
            if (new Row(seed).draw(5) > 1) {
                quiet++;
                CHECK.due("one day: steps of eight by " + seed, posts.years(seed, 1, 0), 8);
                CHECK.due("one day: home of eight by " + seed, posts.years(seed, 1, 1), 0);
                CHECK.due("one day: purses of eight by " + seed, posts.years(seed, 1, 2), 720);
            }
        }
        CHECK.due("some days are quiet", quiet > 5, true);
    }

    private static void years() {
        // Some crossings have no roads: of these none is drawn. One alone, and two; all purses small or large.
        String[] texts = {
            THREE + "road 0 1;road 0 2;road 0 1;road 1 0;person 0 2 9;",
            "crossing 1 0;crossing 2 0;crossing 0 0;crossing 3 0;road 0 1;road 1 0;road 0 3;road 1 3;road 1 0;person 0 2 99;",
            "crossing 1 0;crossing 0 0;crossing 0 0;road 0 1;road 0 1;road 1 0;person 1 2 50;heeds day < 99 or arm;",
        };
        for (String text : texts) {
            for (int seed : new int[] {0, 1, -1, 5, 77, 4711, -99999, 65536, Integer.MIN_VALUE, Integer.MAX_VALUE}) {
                for (int n : new int[] {1, 2, 99, 100}) {
                    byActs(text, seed, n);
                }
            }
        }
    }

    /** The same by acts of one alone: by turn, set and days of a second object. */
    private static void byActs(String text, int seed, int n) {
        TurnPosts acted = Texts.of(text);
        Row row = new Row(seed);
        int steps = 0;
        for (int day = 0; day < n; day++) {
            int kind = row.draw(5);
            if (kind == 0) {
                int crossing = row.draw(acted.count(0));
                int roads = acted.crossing(crossing, 2);
                if (roads > 0) {
                    acted.turn(crossing, row.draw(roads));
                }
            } else if (kind == 1) {
                int person = row.draw(1);
                acted.set(person, row.draw(acted.count(0)));
            }
            steps += acted.then(0, 1, 2);
            acted.days(1);
        }
        TurnPosts asked = Texts.of(text);
        String name = seed + " of " + n + " days in " + text;
        CHECK.due("steps by " + name, asked.years(seed, n, 0), steps);
        CHECK.due("home by " + name, asked.years(seed, n, 1), acted.count(5));
        CHECK.due("purses by " + name, asked.years(seed, n, 2), acted.count(8));
    }
}
