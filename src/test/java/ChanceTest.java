/** Promises 29 to 31: wind, game, years. */
final class ChanceTest {
    private static final Check CHECK = new Check();

    public static void main(String[] args) {
        wind();
        game();
        gains();
        years();
        CHECK.end("ChanceTest");
    }

    private static void wind() {
        TurnPosts posts = Texts.of(Texts.SMALL);
        CHECK.due("wind(0, 2, 5)", posts.wind(0, 2, 5), 0);
        CHECK.due("wind(1, 2, 0)", posts.wind(1, 2, 0), 100);
        CHECK.due("wind(1, 2, 5)", posts.wind(1, 2, 5), 75 - 0);
        CHECK.due("wind(2, 5, 3) who is at home", posts.wind(2, 5, 3), 100000);
        CHECK.due("wind(2, 1, 10)", posts.wind(2, 1, 10), 10);
        // Home only if the arm turns on by each of two days: no wind on the first and the second.
        TurnPosts calm = Texts.of("crossing 0 0;crossing 9 0;crossing 0 0;road 0 1;road 0 1;road 0 2;person 0 2 0;");
        CHECK.due("no wind on two days", calm.wind(0, 3, 3), 7 * 7 * 10);
        CHECK.due("two calm days of three or more", calm.wind(0, 4, 3), (7 * 7 * 7 + 3 * 7 * 7 * 3) * 10);
        CHECK.due("wind always", calm.wind(0, 5, 10), 0);
        CHECK.noSuch("wind(3, 6, 11)", () -> posts.wind(3, 6, 11));
        CHECK.illegal("wind(0, 0, 5)", () -> posts.wind(0, 0, 5));
        CHECK.illegal("wind(0, 6, 5)", () -> posts.wind(0, 6, 5));
        CHECK.illegal("wind(0, 1, 11)", () -> posts.wind(0, 1, 11));
        CHECK.illegal("wind(0, 1, -1)", () -> posts.wind(0, 1, -1));
    }

    private static void game() {
        TurnPosts posts = Texts.of(Texts.SMALL);
        CHECK.due("game(0, 1, 0)", posts.game(0, 1, 0), 0);
        CHECK.due("game(0, 1, 1)", posts.game(0, 1, 1), -1);
        CHECK.due("one is at home", posts.game(0, 2, 0), -1);
        CHECK.due("one is at home, the first", posts.game(2, 0, 1), -1);
        CHECK.noSuch("game(0, 3, 0)", () -> posts.game(0, 3, 0));
        CHECK.noSuch("game(3, 3, 0)", () -> posts.game(3, 3, 0));
        CHECK.noSuch("game(0, 0, 2)", () -> posts.game(0, 0, 2));
        CHECK.noSuch("game(0, 1, -1)", () -> posts.game(0, 1, -1));
        CHECK.illegal("game(0, 0, 1)", () -> posts.game(0, 0, 1));
        CHECK.illegal("game(2, 2, 0) of one at home", () -> posts.game(2, 2, 0));
        // No roads: to turn costs 1 and helps nobody.
        TurnPosts still = Texts.of("crossing 0 0;crossing 0 0;person 0 1 0;person 0 1 0;");
        CHECK.due("neither turns", still.game(0, 1, 0), 1);
        CHECK.due("neither turns: 0", still.game(0, 1, 1), 0);
        // The first one's home is down road 1, and the arm stays: it pays to turn it. The other one is stuck.
        TurnPosts one = Texts.of("crossing 0 0;crossing 9 0;crossing 0 0;crossing 0 0;road 0 1;road 0 2;person 0 2 0;person 3 2 0;turns 0;");
        CHECK.due("the first turns", one.game(0, 1, 0), 1);
        CHECK.due("the first turns: 10", one.game(0, 1, 1), 10);
        CHECK.due("the other turns: 1", one.game(1, 0, 1), 1);
        // Both at one post of two roads, both home down road 1: one turn is enough, two are none.
        TurnPosts both = Texts.of("crossing 0 0;crossing 9 0;crossing 0 0;road 0 1;road 0 2;person 0 2 0;person 0 2 0;turns 0;");
        CHECK.due("either one of two", both.game(0, 1, 0), 2);
        CHECK.due("the other one first", both.game(0, 1, 1), 1);
    }

    /** What a day at home, a step and a turn are worth; the other one stands where no road is. */
    private static void gains() {
        String stuck = "person 2 0 0;turns 0;";
        String fork = "crossing 0 0;crossing 0 0;crossing 0 0;crossing 9 0;";
        // Down road 0 one step that helps nothing; road 1 is too dear. To turn saves the step and costs 1.
        TurnPosts like = Texts.of(fork + "road 0 1;road 0 3;person 0 3 0;" + stuck);
        CHECK.due("both are alike", like.game(0, 1, 0), 2);
        CHECK.due("alike: not to turn first", like.game(0, 1, 1), 0);
        CHECK.due("alike for the other one", like.game(1, 0, 0), 2);
        // Home on the last of 8 days is worth 3 - 1 - 1, on the day behind it nothing.
        String late = fork + "road 0 3;road 0 1;person 0 1 0;" + stuck + "heeds day = ";
        CHECK.due("home on the 8th day", Texts.of(late + "7;").game(0, 1, 1), 10);
        CHECK.due("home on the 9th day", Texts.of(late + "8;").game(0, 1, 1), 0);
        CHECK.due("the 9th day of the other one", Texts.of(late + "8;").game(1, 0, 1), 0);
        CHECK.due("the 8th day of the other one", Texts.of(late + "7;").game(1, 0, 1), 1);
        // Home on the 8th day by road 0, and by road 1 after a turn: 1 is lost, nothing gained.
        TurnPosts both = Texts.of(fork + "road 0 1;road 0 1;person 0 1 0;" + stuck + "heeds day = 7;");
        CHECK.due("one road as good", both.game(0, 1, 0), 1);
        CHECK.due("one road as good: 0", both.game(0, 1, 1), 0);
        // By road 0 eight steps there and back, by road 1, which is too dear, none: a turn's 1 against 8.
        TurnPosts steps = Texts.of(fork + "road 0 1;road 0 3;road 1 0;person 0 3 0;" + stuck);
        CHECK.due("steps lose", steps.game(0, 1, 1), 10);
    }

    /** The seed's row of draws, by longs. */
    private static final class Row {
        private long seed;

        private Row(int seed) {
            this.seed = seed & 0xffffffffL;
        }

        private int draw(int n) {
            seed = (seed * 1103515245L + 12345L) & 0xffffffffL;
            return (int) (seed / 65536 % 32768 % n);
        }
    }

    private static void years() {
        TurnPosts posts = Texts.of(Texts.SMALL);
        CHECK.due("years(5, 0, 0)", posts.years(5, 0, 0), 0);
        CHECK.due("years(5, 0, 1)", posts.years(5, 0, 1), 1);
        CHECK.due("years(5, 0, 2)", posts.years(5, 0, 2), 14);
        CHECK.noSuch("years(5, 101, 3)", () -> posts.years(5, 101, 3));
        CHECK.noSuch("years(5, 0, -1)", () -> posts.years(5, 0, -1));
        CHECK.illegal("years(5, 101, 0)", () -> posts.years(5, 101, 0));
        CHECK.illegal("years(5, -1, 0)", () -> posts.years(5, -1, 0));
        CHECK.due("nobody", Texts.of("crossing 0 0;crossing 0 0;road 0 1;").years(77, 100, 0), 0);
        CHECK.due("nothing", new TurnPosts().years(-3, 100, 2), 0);
        for (int seed = -50; seed < 50; seed++) {
            byActs(seed * 977_351, 12);
        }
    }

    /** The same years by acts: turn, set and days of a second object. */
    private static void byActs(int seed, int n) {
        TurnPosts acted = Texts.of(Texts.SMALL);
        TurnPosts asked = Texts.of(Texts.SMALL);
        Row row = new Row(seed);
        int steps = 0;
        for (int day = 0; day < n; day++) {
            int kind = row.draw(5);
            if (kind == 0) {
                int crossing = row.draw(4);
                acted.turn(crossing, row.draw(acted.crossing(crossing, 2)));
            } else if (kind == 1) {
                int person = row.draw(3);
                acted.set(person, row.draw(4));
            }
            for (int person = 0; person < 3; person++) {
                steps += acted.then(person, 1, 2);
            }
            acted.days(1);
        }
        CHECK.due("steps by " + seed, asked.years(seed, n, 0), steps);
        CHECK.due("home by " + seed, asked.years(seed, n, 1), Integer.bitCount(acted.count(5)));
        CHECK.due("purses by " + seed, asked.years(seed, n, 2), acted.count(8));
        CHECK.due("nothing changes by " + seed, asked.count(2), 0);
    }
}
