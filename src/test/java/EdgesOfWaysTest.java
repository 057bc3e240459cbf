/** The edges that promises 22, 24 and 41 to 44, and PARTS, REACHED, WATCHED name: no way, itself, like ones, none, all shut. */
final class EdgesOfWaysTest {
    private static final Check CHECK = new Check();
    private static final int[] FAR_OFF = {Integer.MIN_VALUE, -1, Integer.MAX_VALUE};
    private static final String TWO = "crossing 0 0;crossing 0 0;";
    private static final String THREE = TWO + "crossing 0 0;";
    private static final String ROW = "road 0 1;road 1 2;road 2 3;road 3 4;road 4 5;road 5 6;road 6 7;road 7 8;";

    public static void main(String[] args) {
        noSuch();
        changesNothing();
        way();
        parts();
        watched();
        lodged();
        lodgedAlike();
        gather();
        loop();
        longest();
        balance();
        tour();
        tourRow();
        circuit();
        full();
        CHECK.end("EdgesOfWaysTest");
    }

    private static String crossings(int many, int toll) {
        return ("crossing " + toll + " 0;").repeat(many);
    }

    private static void shutAll(TurnPosts posts) {
        for (int crossing = 0; crossing < posts.count(0); crossing++) {
            for (int road = 0; road < posts.crossing(crossing, 2); road++) {
                posts.shut(crossing, road, true);
            }
        }
    }

    private static void noSuch() {
        TurnPosts posts = Texts.of(Texts.SMALL);
        for (int far : FAR_OFF) {
            CHECK.noSuch("way from " + far, () -> posts.way(far, 0, 0));
            CHECK.noSuch("way to " + far, () -> posts.way(0, far, 0));
            CHECK.noSuch("way what " + far, () -> posts.way(0, 0, far));
            CHECK.noSuch("lodged " + far, () -> posts.lodged(far));
            CHECK.noSuch("gather " + far, () -> posts.gather(far));
            CHECK.noSuch("walk of " + far, () -> posts.walk(far, 0));
            CHECK.noSuch("walk what " + far, () -> posts.walk(0, far));
            CHECK.noSuch("tour " + far, () -> posts.tour(far));
            CHECK.noSuch("tour of nothing " + far, () -> new TurnPosts().tour(far));
        }
        CHECK.noSuch("way from 4", () -> posts.way(4, 0, 0));
        CHECK.noSuch("way to 4", () -> posts.way(0, 4, 1));
        CHECK.noSuch("way from 4 to 4", () -> posts.way(4, 4, 0));
        CHECK.noSuch("way what 2", () -> posts.way(0, 0, 2));
        CHECK.noSuch("lodged 2", () -> posts.lodged(2));
        CHECK.noSuch("lodged 2 of nothing", () -> new TurnPosts().lodged(2));
        CHECK.noSuch("gather 3", () -> posts.gather(3));
        CHECK.noSuch("gather 3 of nothing", () -> new TurnPosts().gather(3));
        CHECK.noSuch("walk of 4", () -> posts.walk(4, 0));
        CHECK.noSuch("walk what 3", () -> posts.walk(0, 3));
        CHECK.noSuch("walk of nothing", () -> new TurnPosts().walk(0, 0));
        CHECK.noSuch("tour 4 of 4", () -> posts.tour(4));
        CHECK.due("tour 3 of 4, of which there is none", posts.tour(3), -1);
        CHECK.noSuch("tour 1 of 1", () -> Texts.of("crossing 0 0;").tour(1));
        CHECK.noSuch("tour 1 of none", () -> new TurnPosts().tour(1));
        CHECK.noSuch("tour 9 of 9", () -> Texts.of(Texts.FULL).tour(9));
    }

    private static void changesNothing() {
        TurnPosts posts = Texts.of(Texts.SMALL);
        posts.shut(0, 1, true);
        String all = Texts.state(posts) + Texts.status(posts);
        for (int what = 0; what < 2; what++) {
            posts.way(0, 3, what);
            posts.lodged(what);
            posts.gather(what);
            posts.walk(0, what);
            posts.tour(what);
        }
        posts.circuit();
        posts.person(0, 3);
        CHECK.same("nothing changes", Texts.state(posts) + Texts.status(posts), all);
    }

    // ---- HOW FAR, COST: 0 to itself; none

    private static void way() {
        TurnPosts row = Texts.of(crossings(9, 9) + ROW);
        for (int from = 0; from < 9; from++) {
            for (int to = 0; to < 9; to++) {
                CHECK.due("far from " + from + " to " + to, row.way(from, to, 0), to >= from ? to - from : -1);
                CHECK.due("cost from " + from + " to " + to, row.way(from, to, 1), to >= from ? 9 * (to - from) : -1);
            }
        }
        TurnPosts ring = Texts.of("crossing 9 0;crossing 9 0;road 0 1;road 1 0;");
        CHECK.due("0 to itself, not round", ring.way(0, 0, 0), 0);
        CHECK.due("costs 0 to itself", ring.way(0, 0, 1), 0);
        CHECK.due("its own toll isn't paid", ring.way(0, 1, 1), 9);
        ring.shut(0, 0, true);
        CHECK.due("shut", ring.way(0, 1, 0), -1);
        CHECK.due("shut, the cost", ring.way(0, 1, 1), -1);
        CHECK.due("the other way", ring.way(1, 0, 0), 1);
        TurnPosts sides = Texts.of("crossing 0 0;crossing 9 0;road 0 1;road 0 1;");
        sides.shut(0, 0, true);
        CHECK.due("one of two is open", sides.way(0, 1, 0), 1);
        sides.shut(0, 1, true);
        CHECK.due("neither is", sides.way(0, 1, 0), -1);
        sides.shut(0, 0, false);
        CHECK.due("one is again", sides.way(0, 1, 1), 9);
        CHECK.due("free of toll", Texts.of(TWO + "road 0 1;").way(0, 1, 1), 0);
        TurnPosts purse = Texts.of("crossing 0 0;crossing 9 0;road 0 1;person 0 1 0;heeds 0;");
        CHECK.due("whatever purses and rules say", purse.way(0, 1, 1), 9);
    }

    private static void parts() {
        CHECK.due("none", new TurnPosts().count(6), 0);
        CHECK.due("one", Texts.of("crossing 0 0;").count(6), 1);
        CHECK.due("nine alone", Texts.of(crossings(9, 0) + ROW).count(6), 9);
        TurnPosts ring = Texts.of(crossings(9, 0) + ROW + "road 8 0;");
        CHECK.due("nine together", ring.count(6), 1);
        CHECK.due("the part of the last", ring.crossing(8, 5), 511);
        CHECK.due("reached from the last", ring.crossing(8, 6), 511);
        ring.shut(8, 0, true);
        CHECK.due("by one that is shut all alone", ring.count(6), 9);
        CHECK.due("the last alone", ring.crossing(8, 5), 256);
        CHECK.due("the last reaches itself", ring.crossing(8, 6), 256);
        CHECK.due("the first reaches all", ring.crossing(0, 6), 511);
        CHECK.due("the first alone", ring.crossing(0, 5), 1);
        TurnPosts pairs = Texts.of(crossings(5, 0) + "road 0 3;road 3 0;road 1 4;road 4 1;road 3 4;");
        CHECK.due("three parts", pairs.count(6), 3);
        CHECK.due("a part that isn't in a row", pairs.crossing(3, 5), 9);
        CHECK.due("another one", pairs.crossing(1, 5), 18);
        CHECK.due("one of one", pairs.crossing(2, 5), 4);
    }

    private static void watched() {
        CHECK.due("nothing", new TurnPosts().count(7), 0);
        CHECK.due("no roads", Texts.of(crossings(9, 0)).count(7), 0);
        TurnPosts last = Texts.of(crossings(9, 0) + "road 8 7;");
        CHECK.due("of as few the least", last.count(7), 128);
        last.shut(8, 0, true);
        CHECK.due("shut", last.count(7), 0);
        TurnPosts sides = Texts.of(TWO + "road 1 0;road 1 0;");
        sides.shut(1, 0, true);
        CHECK.due("one of two is open", sides.count(7), 1);
        TurnPosts star = Texts.of(crossings(9, 0) + "road 0 8;road 1 8;road 2 8;road 8 3;road 8 4;");
        CHECK.due("fewest, though not least as bits", star.count(7), 256);
    }

    // ---- LODGED

    private static void beds(String name, TurnPosts posts, int many, int much, int... where) {
        CHECK.due(name + ": how many", posts.lodged(0), many);
        CHECK.due(name + ": how much", posts.lodged(1), much);
        for (int person = 0; person < where.length; person++) {
            CHECK.due(name + ": bed of " + person, posts.person(person, 3), where[person]);
        }
    }

    private static void lodged() {
        beds("nothing", new TurnPosts(), 0, 0);
        beds("beds and nobody", Texts.of("crossing 0 1;crossing 0 1;"), 0, 0);
        beds("nobody has a bed", Texts.of(TWO + "road 0 1;person 0 0 0;person 1 1 0;"), 0, 0, -1, -1);
        beds("a bed to which there is no way", Texts.of("crossing 0 1;crossing 0 0;road 0 1;person 1 0 9;"), 0, 0, -1);
        beds("at home or not", Texts.of("crossing 9 1;crossing 9 1;person 0 0 0;person 1 0 0;"), 2, 0, 0, 1);
        beds("whatever purses hold", Texts.of("crossing 0 0;crossing 9 1;road 0 1;person 0 0 0;"), 1, 9, 1);
        TurnPosts shut = Texts.of("crossing 0 0;crossing 9 1;road 0 1;person 0 0 0;");
        shut.shut(0, 0, true);
        beds("shut", shut, 0, 0, -1);
        TurnPosts all = Texts.of(Texts.FULL);
        beds("eight of nine beds", all, 8, 9 * 28, 0, 1, 2, 3, 4, 5, 6, 7);
        shutAll(all);
        beds("all at one, all shut", all, 1, 0, 0, -1, -1, -1, -1, -1, -1, -1);
        // As many as can, though two of them pay 9, and one alone would pay nothing.
        beds("many ahead of cheap", Texts.of("crossing 0 1;crossing 9 1;road 0 1;person 0 0 0;person 0 0 0;"), 2, 9, 0, 1);
        // The cheap bed is the only one for the second.
        beds("for who has no other", Texts.of("crossing 0 1;crossing 9 1;crossing 0 0;road 2 0;road 2 1;person 2 0 0;person 0 0 0;"), 2, 9, 1, 0);
        // Longer and cheaper.
        beds("by the least tolls", Texts.of("crossing 0 0;crossing 9 0;crossing 1 0;crossing 0 1;road 0 1;road 1 3;road 0 2;road 2 3;person 0 0 0;"),
                1, 1, 3);
    }

    private static void lodgedAlike() {
        String three = "crossing 0 1;crossing 0 1;crossing 0 1;road 0 1;road 1 2;road 2 0;";
        beds("the first row", Texts.of(three + "person 2 0 0;person 1 0 0;person 0 0 0;"), 3, 0, 0, 1, 2);
        beds("nowhere behind all", Texts.of("crossing 0 1;person 0 0 0;person 0 0 0;person 0 0 0;"), 1, 0, 0, -1, -1);
        beds("least tolls ahead of the first row", Texts.of("crossing 1 1;crossing 1 1;road 0 1;road 1 0;person 1 0 0;person 0 0 0;"), 2, 0, 1, 0);
        beds("the last of like ones has none", Texts.of(three + "person 2 0 0;".repeat(4)), 3, 0, 0, 1, 2, -1);
        // Both could be nowhere; where the first one has a bed is the first row.
        beds("a bed ahead of nowhere", Texts.of("crossing 3 1;crossing 0 0;crossing 0 0;road 1 0;road 2 0;person 1 0 0;person 2 0 0;"), 1, 3, 0, -1);
        beds("nowhere for the first, if that is cheaper", Texts.of("crossing 3 1;crossing 0 0;road 1 0;person 1 0 0;person 0 0 0;"), 1, 0, -1, 0);
    }

    // ---- GATHER

    private static void gathers(String name, TurnPosts posts, int which, int many, int much) {
        CHECK.due(name + ": which", posts.gather(0), which);
        CHECK.due(name + ": how many", posts.gather(1), many);
        CHECK.due(name + ": how much", posts.gather(2), much);
    }

    private static void gather() {
        gathers("no crossings", new TurnPosts(), -1, 0, 0);
        gathers("nobody", Texts.of(crossings(9, 9) + ROW), 0, 0, 0);
        gathers("one alone", Texts.of(TWO + "person 1 0 0;"), 1, 1, 0);
        gathers("of like ones the least", Texts.of(THREE + "person 2 0 0;person 1 0 0;"), 1, 1, 0);
        gathers("free ways to two", Texts.of(THREE + "road 1 2;road 2 1;person 2 0 0;person 1 0 0;"), 1, 2, 0);
        gathers("many ahead of cheap", Texts.of("crossing 0 0;crossing 0 0;crossing 9 0;road 0 2;road 1 2;person 0 0 0;person 1 0 0;"), 2, 2, 18);
        gathers("cheap ahead of least", Texts.of("crossing 2 0;crossing 1 0;road 0 1;road 1 0;person 0 0 0;person 1 0 0;"), 1, 2, 1);
        TurnPosts shut = Texts.of("crossing 2 0;crossing 1 0;road 0 1;road 1 0;person 0 0 0;person 1 0 0;");
        shut.shut(0, 0, true);
        gathers("the other one is shut", shut, 0, 2, 2);
        shut.shut(1, 0, true);
        gathers("both are shut", shut, 0, 1, 0);
        gathers("eight come to the last", Texts.of(crossings(9, 9) + ROW + "person 0 0 0;person 1 0 0;person 2 0 0;person 3 0 0;person 4 0 0;"
                + "person 5 0 0;person 6 0 0;person 8 0 0;"), 8, 8, 9 * (8 + 7 + 6 + 5 + 4 + 3 + 2));
    }

    // ---- LOOP, LONGEST WALK, BALANCE

    private static void loop() {
        CHECK.due("no roads", Texts.of("crossing 0 0;").walk(0, 0), -1);
        CHECK.due("no way back", Texts.of(TWO + "road 0 1;").walk(0, 0), -1);
        CHECK.due("to there only", Texts.of(TWO + "road 0 1;").walk(1, 0), -1);
        TurnPosts ring = Texts.of(crossings(9, 0) + ROW + "road 8 0;road 3 1;");
        CHECK.due("nine", ring.walk(8, 0), 9);
        CHECK.due("three", ring.walk(2, 0), 3);
        ring.shut(3, 1, true);
        CHECK.due("nine again", ring.walk(2, 0), 9);
        ring.shut(8, 0, true);
        CHECK.due("none", ring.walk(2, 0), -1);
        TurnPosts pair = Texts.of(TWO + "road 0 1;road 1 0;");
        CHECK.due("two", pair.walk(0, 0), 2);
        CHECK.due("two from the other", pair.walk(1, 0), 2);
        TurnPosts tail = Texts.of(THREE + "road 0 1;road 1 2;road 2 1;");
        CHECK.due("a loop that one comes to isn't one's own", tail.walk(0, 0), -1);
    }

    private static void longest() {
        CHECK.due("no roads", Texts.of("crossing 0 0;").walk(0, 1), 0);
        TurnPosts row = Texts.of(crossings(9, 0) + ROW);
        for (int from = 0; from < 9; from++) {
            CHECK.due("the rest of the row", row.walk(from, 1), 8 - from);
        }
        TurnPosts lodging = Texts.of("crossing 0 1;" + crossings(8, 0) + ROW + "person 0 0 0;");
        CHECK.due("a bed is asked ahead", lodging.lodged(0), 1);
        CHECK.due("no walk from the last all the same", lodging.walk(8, 1), 0);
        CHECK.due("not back to where one begins", Texts.of(TWO + "road 0 1;road 1 0;").walk(0, 1), 1);
        // Of 0, 1, 2 in either order only one goes on to 3.
        String both = crossings(4, 0) + "road 0 1;road 0 2;road 1 2;road 2 1;";
        CHECK.due("on from 1", Texts.of(both + "road 1 3;").walk(0, 1), 3);
        CHECK.due("on from 2", Texts.of(both + "road 2 3;").walk(0, 1), 3);
        CHECK.due("on from neither", Texts.of(both).walk(0, 1), 2);
        TurnPosts shut = Texts.of(both + "road 2 3;");
        shut.shut(1, 0, true);
        CHECK.due("by what is open", shut.walk(0, 1), 2);
        shutAll(shut);
        CHECK.due("all shut", shut.walk(0, 1), 0);
        CHECK.due("a star", Texts.of(crossings(9, 0) + "road 8 0;road 8 1;road 8 2;road 8 3;road 8 4;").walk(8, 1), 1);
    }

    private static void balance() {
        TurnPosts posts = Texts.of(crossings(9, 0) + "road 0 8;".repeat(5) + "road 1 8;".repeat(5) + "road 8 1;");
        CHECK.due("five from it", posts.walk(0, 2), -5);
        CHECK.due("ten to it, one from it", posts.walk(8, 2), 9);
        CHECK.due("one to it, five from it", posts.walk(1, 2), -4);
        CHECK.due("none", posts.walk(2, 2), 0);
        posts.shut(0, 4, true);
        CHECK.due("what is shut isn't counted from", posts.walk(0, 2), -4);
        CHECK.due("nor to", posts.walk(8, 2), 8);
        shutAll(posts);
        CHECK.due("all shut", posts.walk(8, 2), 0);
        TurnPosts most = Texts.of(crossings(9, 0) + "road 0 8;road 1 8;road 2 8;road 3 8;".repeat(5) + "road 4 8;".repeat(5) + "road 5 8;".repeat(5));
        CHECK.due("thirty to it", most.walk(8, 2), 30);
    }

    // ---- TOUR

    private static void tour() {
        CHECK.due("no crossing", new TurnPosts().tour(0), -1);
        CHECK.due("but one", Texts.of("crossing 9 0;").tour(0), 0);
        CHECK.due("two without roads", Texts.of(TWO).tour(0), -1);
        CHECK.due("two without roads: the first", Texts.of(TWO).tour(1), -1);
        CHECK.due("no way back", Texts.of(TWO + "road 0 1;").tour(0), -1);
        CHECK.due("there and back, free", Texts.of(TWO + "road 0 1;road 1 0;").tour(0), 0);
        CHECK.due("there and back", Texts.of("crossing 4 0;crossing 3 0;road 0 1;road 1 0;").tour(0), 7);
        TurnPosts row = Texts.of(crossings(9, 9) + ROW + "road 8 0;");
        CHECK.due("nine round", row.tour(0), 81);
        for (int i = 1; i < 9; i++) {
            CHECK.due("nine round: " + i, row.tour(i), i);
        }
        row.shut(4, 0, true);
        for (int i = 0; i < 9; i++) {
            CHECK.due("nine that aren't round: " + i, row.tour(i), -1);
        }
        // Not beginning at 0 alone: 1 isn't come to.
        CHECK.due("one that isn't come to", Texts.of(THREE + "road 0 2;road 2 0;road 1 0;").tour(0), -1);
        CHECK.due("the last of nine isn't come to", Texts.of(crossings(9, 1) + ROW.replace("road 7 8;", "road 7 0;road 8 0;")).tour(0), -1);
        CHECK.due("from the last of nine one doesn't go on", Texts.of(crossings(9, 1) + ROW + "road 7 0;").tour(0), -1);
        // Ring of nine in another order: 0 4 8 3 7 2 6 1 5.
        StringBuilder ring = new StringBuilder(crossings(9, 1));
        for (int i = 0; i < 9; i++) {
            ring.append("road ").append(i).append(' ').append((i + 4) % 9).append(';');
        }
        TurnPosts other = Texts.of(ring.toString());
        CHECK.due("another order", other.tour(0), 9);
        for (int i = 1; i < 9; i++) {
            CHECK.due("another order: " + i, other.tour(i), i * 4 % 9);
        }
    }

    /** Of like ones the first row; through whichever. */
    private static void tourRow() {
        // A row there and back: each order costs the same, if all is free.
        TurnPosts free = Texts.of(crossings(4, 0) + "road 0 3;road 3 2;road 2 1;road 1 2;road 2 3;road 3 0;");
        for (int i = 1; i < 4; i++) {
            CHECK.due("free: " + i, free.tour(i), i);
        }
        CHECK.due("free", free.tour(0), 0);
        // With tolls it is least to go down the row once: the first of like rows is 0 1 2 3 (through 3 and 2 there).
        TurnPosts tolls = Texts.of(crossings(4, 1) + "road 0 3;road 3 2;road 2 1;road 1 2;road 2 3;road 3 0;");
        CHECK.due("with tolls", tolls.tour(0), 6);
        for (int i = 1; i < 4; i++) {
            CHECK.due("with tolls: " + i, tolls.tour(i), i);
        }
        // All next to 0, which costs 1 each time.
        TurnPosts star = Texts.of("crossing 1 0;" + crossings(3, 2) + "road 0 1;road 0 2;road 0 3;road 1 0;road 2 0;road 3 0;");
        CHECK.due("a star", star.tour(0), 9);
        for (int i = 1; i < 4; i++) {
            CHECK.due("a star: " + i, star.tour(i), i);
        }
        // Only 0 2 1 0 is without a second way through 0.
        TurnPosts one = Texts.of("crossing 5 0;crossing 0 0;crossing 0 0;road 0 1;road 0 2;road 2 1;road 1 0;");
        CHECK.due("the cheap one", one.tour(0), 5);
        CHECK.due("by 2", one.tour(1), 2);
        CHECK.due("then 1", one.tour(2), 1);
        // Costs, not roads: a longer way that is free.
        TurnPosts longer = Texts.of("crossing 0 0;crossing 0 0;crossing 9 0;crossing 0 0;road 0 2;road 2 1;road 0 3;road 3 1;road 1 0;road 1 2;");
        CHECK.due("9 once", longer.tour(0), 9);
        CHECK.due("the first row of like ones", longer.tour(1) * 100 + longer.tour(2) * 10 + longer.tour(3), 123);
    }

    // ---- CIRCUIT

    private static void circuit() {
        CHECK.due("no crossing", new TurnPosts().circuit(), true);
        CHECK.due("no road", Texts.of(crossings(9, 0)).circuit(), true);
        CHECK.due("one road", Texts.of(TWO + "road 0 1;").circuit(), false);
        CHECK.due("there and back", Texts.of(TWO + "road 0 1;road 1 0;").circuit(), true);
        CHECK.due("twice there, once back", Texts.of(TWO + "road 0 1;road 0 1;road 1 0;").circuit(), false);
        CHECK.due("twice there and back", Texts.of(TWO + "road 0 1;road 0 1;road 1 0;road 1 0;").circuit(), true);
        CHECK.due("others without roads", Texts.of(crossings(9, 0) + "road 7 8;road 8 7;").circuit(), true);
        TurnPosts two = Texts.of(crossings(4, 0) + "road 0 1;road 1 0;road 2 3;road 3 2;");
        CHECK.due("two parts", two.circuit(), false);
        two.shut(0, 0, true);
        CHECK.due("balance is off at 0", two.circuit(), false);
        two.shut(1, 0, true);
        CHECK.due("but one part has roads", two.circuit(), true);
        shutAll(two);
        CHECK.due("all shut", two.circuit(), true);
        CHECK.due("balance is off at the first alone", Texts.of(THREE + "road 0 1;road 1 2;").circuit(), false);
        TurnPosts ring = Texts.of(crossings(9, 0) + ROW + "road 8 0;");
        CHECK.due("a ring", ring.circuit(), true);
        ring.shut(8, 0, true);
        CHECK.due("a row", ring.circuit(), false);
    }

    /** Each of nine to the five behind it: each is next to each other one, one way or the other. */
    private static void full() {
        StringBuilder text = new StringBuilder("crossing 9 1;".repeat(9));
        for (int from = 0; from < 9; from++) {
            for (int on = 1; on <= 5; on++) {
                text.append("road ").append(from).append(' ').append((from + on) % 9).append(';');
            }
        }
        TurnPosts posts = Texts.of(text.append("person 0 8 99;".repeat(8)).toString());
        CHECK.due("far", posts.way(0, 8, 0), 2);
        CHECK.due("cost", posts.way(0, 8, 1), 18);
        CHECK.due("parts", posts.count(6), 1);
        CHECK.due("watched", posts.count(7), 255);
        CHECK.due("loop", posts.walk(8, 0), 2);
        CHECK.due("longest", posts.walk(8, 1), 8);
        CHECK.due("balance", posts.walk(8, 2), 0);
        CHECK.due("circuit", posts.circuit(), true);
        CHECK.due("tour", posts.tour(0), 81);
        for (int i = 1; i < 9; i++) {
            CHECK.due("tour " + i, posts.tour(i), i);
        }
        beds("one stays, five pay once, two twice", posts, 8, 81, 0, 1, 2, 3, 4, 5, 6, 7);
        gathers("all are there", posts, 0, 8, 0);
        shutAll(posts);
        CHECK.due("all shut: tour", posts.tour(0), -1);
        CHECK.due("all shut: longest", posts.walk(8, 1), 0);
        beds("all shut", posts, 1, 0, 0, -1, -1, -1, -1, -1, -1, -1);
    }
}
