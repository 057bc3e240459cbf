/** Promises 22, 24, 41 to 44: ways by open roads, beds, gathering, walks, tours, circuits. */
final class WaysTest {
    private static final Check CHECK = new Check();

    public static void main(String[] args) {
        way();
        lodged();
        gather();
        walk();
        tour();
        circuit();
        CHECK.end("WaysTest");
    }

    private static TurnPosts small() {
        return Texts.of(Texts.SMALL);
    }

    private static void way() {
        TurnPosts posts = small();
        CHECK.due("way(0, 3, 0)", posts.way(0, 3, 0), 2);
        CHECK.due("way(0, 3, 1)", posts.way(0, 3, 1), 0);
        CHECK.due("way(0, 2, 1)", posts.way(0, 2, 1), 2);
        CHECK.due("way(2, 0, 0)", posts.way(2, 0, 0), -1);
        CHECK.due("way(2, 0, 1)", posts.way(2, 0, 1), -1);
        CHECK.due("way(2, 2, 0)", posts.way(2, 2, 0), 0);
        CHECK.due("way(2, 2, 1)", posts.way(2, 2, 1), 0);
        posts.shut(1, 1, true);
        CHECK.due("way(0, 3, 1) by 2", posts.way(0, 3, 1), 2);
        posts.shut(0, 1, true);
        CHECK.due("way(0, 3, 0) by none", posts.way(0, 3, 0), -1);
        TurnPosts detour = Texts.of("crossing 0 0;crossing 9 0;crossing 1 0;crossing 1 0;crossing 2 0;"
                + "road 0 1;road 1 4;road 0 2;road 2 3;road 3 4;");
        CHECK.due("the fewest roads", detour.way(0, 4, 0), 2);
        CHECK.due("the least tolls by more roads", detour.way(0, 4, 1), 4);
        CHECK.noSuch("way(4, 0, 0)", () -> posts.way(4, 0, 0));
        CHECK.noSuch("way(0, 4, 0)", () -> posts.way(0, 4, 0));
        CHECK.noSuch("way(0, -1, 1)", () -> posts.way(0, -1, 1));
        CHECK.noSuch("way(0, 0, 2)", () -> posts.way(0, 0, 2));
        CHECK.noSuch("way(0, 0, -1)", () -> posts.way(0, 0, -1));
    }

    private static void beds(String name, TurnPosts posts, int many, int much, int... where) {
        CHECK.due(name + ": lodged(0)", posts.lodged(0), many);
        CHECK.due(name + ": lodged(1)", posts.lodged(1), much);
        for (int person = 0; person < where.length; person++) {
            CHECK.due(name + ": bed of " + person, posts.person(person, 3), where[person]);
        }
    }

    private static void lodged() {
        beds("small", small(), 2, 2, 0, 2, -1);
        beds("nobody", Texts.of("crossing 0 1;"), 0, 0);
        beds("no beds", Texts.of("crossing 0 0;person 0 0 0;"), 0, 0, -1);
        beds("one bed for the first", Texts.of("crossing 0 1;person 0 0 0;person 0 0 0;"), 1, 0, 0, -1);
        beds("as many as can, though it costs", Texts.of("crossing 0 1;crossing 9 1;crossing 0 0;road 2 0;road 2 1;road 0 1;"
                + "person 2 0 0;person 0 0 0;"), 2, 9, 0, 1);
        beds("the dear bed for who has no other", Texts.of("crossing 1 1;crossing 9 1;crossing 0 0;crossing 0 0;road 2 0;road 2 1;road 3 0;"
                + "person 2 0 0;person 3 0 0;"), 2, 10, 1, 0);
        beds("of like ones the first row", Texts.of("crossing 0 1;crossing 0 1;crossing 0 1;road 0 1;road 1 2;road 2 0;"
                + "person 2 0 0;person 2 0 0;person 0 0 0;person 0 0 0;"), 3, 0, 0, 1, 2, -1);
        beds("nowhere behind all, least tolls ahead", Texts.of("crossing 2 1;crossing 0 0;road 1 0;person 1 0 0;person 0 0 0;"), 1, 0, -1, 0);
        TurnPosts shut = small();
        shut.shut(0, 1, true);
        shut.shut(1, 1, true);
        beds("by open roads", shut, 1, 0, 0, -1, -1);
        TurnPosts used = Texts.of("crossing 9 1;crossing 9 1;road 0 1;road 1 0;person 0 0 0;person 1 0 0;person 1 1 0;person 0 0 0;");
        CHECK.due("a tour ahead", used.tour(0), 18);
        CHECK.due("a walk ahead", used.walk(0, 1), 1);
        beds("whatever was asked ahead", used, 2, 0, 0, 1, -1, -1);
        TurnPosts four = Texts.of("crossing 9 1;crossing 9 1;crossing 9 1;crossing 9 1;road 0 1;road 1 2;road 2 3;road 3 0;"
                + "person 0 0 0;person 0 0 0;person 0 0 0;person 0 0 0;person 0 0 0;");
        CHECK.due("a tour of four ahead", four.tour(0), 36);
        beds("all beds taken", four, 4, 54, 0, 1, 2, 3, -1);
        TurnPosts many = Texts.of("crossing 0 1;".repeat(9) + "person 0 0 0;person 1 0 0;person 2 0 0;person 3 0 0;person 4 0 0;person 5 0 0;"
                + "person 6 0 0;person 7 0 0;");
        beds("each where one is", many, 8, 0, 0, 1, 2, 3, 4, 5, 6, 7);
        Texts.read(many, "crossing 9 1;crossing 9 1;road 0 1;road 1 0;person 0 0 0;person 0 0 0;person 1 0 0;person 1 0 0;");
        beds("another shire", many, 2, 0, 0, -1, 1, -1);
        CHECK.noSuch("lodged(2)", () -> small().lodged(2));
        CHECK.noSuch("lodged(-1)", () -> small().lodged(-1));
        beds("eight in nine beds", Texts.of("crossing 1 1;".repeat(9) + "road 0 1;road 1 2;road 2 3;road 3 4;road 4 5;road 5 6;road 6 7;road 7 8;"
                + "person 0 0 0;".repeat(8)), 8, 28, 0, 1, 2, 3, 4, 5, 6, 7);
    }

    private static void gathers(String name, TurnPosts posts, int which, int many, int much) {
        CHECK.due(name + ": gather(0)", posts.gather(0), which);
        CHECK.due(name + ": gather(1)", posts.gather(1), many);
        CHECK.due(name + ": gather(2)", posts.gather(2), much);
    }

    private static void gather() {
        gathers("small", small(), 1, 3, 0);
        gathers("no crossings", new TurnPosts(), -1, 0, 0);
        gathers("nobody", Texts.of("crossing 0 0;crossing 0 0;road 0 1;"), 0, 0, 0);
        gathers("most people ahead of least tolls", Texts.of("crossing 0 0;crossing 0 0;crossing 9 0;road 0 2;road 1 2;"
                + "person 0 0 0;person 1 0 0;"), 2, 2, 18);
        gathers("of like ones the least", Texts.of("crossing 0 0;crossing 0 0;crossing 0 0;person 1 0 0;person 2 0 0;"), 1, 1, 0);
        TurnPosts shut = small();
        shut.shut(0, 0, true);
        gathers("by open roads", shut, 0, 3, 1);
        CHECK.noSuch("gather(3)", () -> small().gather(3));
        CHECK.noSuch("gather(-1)", () -> new TurnPosts().gather(-1));
    }

    private static void walk() {
        TurnPosts posts = small();
        int[][] due = {{2, 3, -1}, {2, 3, -1}, {2, 1, 1}, {2, 1, 1}};
        for (int crossing = 0; crossing < 4; crossing++) {
            for (int what = 0; what < 3; what++) {
                CHECK.due("walk(" + crossing + ", " + what + ")", posts.walk(crossing, what), due[crossing][what]);
            }
        }
        posts.shut(1, 0, true);
        CHECK.due("no loop by open roads", posts.walk(0, 0), -1);
        CHECK.due("balance by open roads", posts.walk(0, 2), -2);
        posts.shut(1, 1, true);
        CHECK.due("longest by open roads", posts.walk(0, 1), 2);
        TurnPosts ring = Texts.of("crossing 0 0;".repeat(9) + "road 0 1;road 1 2;road 2 3;road 3 4;road 4 5;road 5 6;road 6 7;road 7 8;road 8 0;");
        CHECK.due("a loop of nine", ring.walk(4, 0), 9);
        CHECK.due("a walk of eight", ring.walk(4, 1), 8);
        CHECK.due("no walk", Texts.of("crossing 0 0;").walk(0, 1), 0);
        CHECK.due("no loop", Texts.of("crossing 0 0;").walk(0, 0), -1);
        CHECK.due("roads side by side", Texts.of("crossing 0 0;crossing 0 0;road 1 0;road 1 0;road 0 1;").walk(0, 2), 1);
        CHECK.noSuch("walk(4, 0)", () -> posts.walk(4, 0));
        CHECK.noSuch("walk(0, 3)", () -> posts.walk(0, 3));
        CHECK.noSuch("walk(0, -1)", () -> posts.walk(0, -1));
    }

    private static void tour() {
        TurnPosts posts = small();
        CHECK.due("no tour", posts.tour(0), -1);
        CHECK.due("no tour's third", posts.tour(3), -1);
        CHECK.noSuch("tour(4)", () -> posts.tour(4));
        CHECK.noSuch("tour(-1)", () -> posts.tour(-1));
        TurnPosts none = new TurnPosts();
        CHECK.due("no crossing", none.tour(0), -1);
        CHECK.noSuch("no crossing's tour(1)", () -> none.tour(1));
        TurnPosts one = Texts.of("crossing 7 0;");
        CHECK.due("but one", one.tour(0), 0);
        CHECK.noSuch("but one's tour(1)", () -> one.tour(1));
        TurnPosts star = Texts.of("crossing 1 0;crossing 2 0;crossing 3 0;road 1 0;road 0 1;road 2 0;road 0 2;");
        CHECK.due("through whichever", star.tour(0), 1 + 2 + 1 + 3);
        CHECK.due("of like ones the first row", star.tour(1), 1);
        CHECK.due("and then", star.tour(2), 2);
        TurnPosts ring = Texts.of("crossing 1 0;crossing 1 0;crossing 1 0;crossing 1 0;road 0 3;road 3 1;road 1 2;road 2 0;");
        CHECK.due("a ring", ring.tour(0), 4);
        CHECK.due("a ring's first", ring.tour(1), 3);
        CHECK.due("a ring's second", ring.tour(2), 1);
        CHECK.due("a ring's third", ring.tour(3), 2);
        ring.shut(3, 0, true);
        CHECK.due("a ring that is shut", ring.tour(0), -1);
        CHECK.due("its first", ring.tour(1), -1);
    }

    private static void circuit() {
        CHECK.due("small", small().circuit(), false);
        CHECK.due("no crossings", new TurnPosts().circuit(), true);
        CHECK.due("no roads", Texts.of("crossing 0 0;crossing 0 0;").circuit(), true);
        CHECK.due("there and back", Texts.of("crossing 0 0;crossing 0 0;crossing 0 0;road 1 2;road 2 1;").circuit(), true);
        CHECK.due("there alone", Texts.of("crossing 0 0;crossing 0 0;road 0 1;").circuit(), false);
        TurnPosts two = Texts.of("crossing 0 0;".repeat(4) + "road 0 1;road 1 0;road 2 3;road 3 2;");
        CHECK.due("two parts with roads", two.circuit(), false);
        two.shut(2, 0, true);
        CHECK.due("balance is off", two.circuit(), false);
        two.shut(3, 0, true);
        CHECK.due("open roads alone", two.circuit(), true);
        CHECK.due("an eight", Texts.of("crossing 0 0;crossing 0 0;crossing 0 0;road 0 1;road 1 0;road 0 2;road 2 0;").circuit(), true);
    }
}
