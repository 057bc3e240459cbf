/** Promises 15 to 21, 23, 32 to 40: what comes if only days go by, or if one thing were changed. */
final class AheadTest {
    private static final Check CHECK = new Check();
    private static final String PAIR = "crossing 0 0;crossing 0 0;road 0 1;";
    /** Round and round through 0, 1, 2: home is a crossing to which no road leads. */
    private static final String RING = "crossing 0 0;crossing 0 0;crossing 0 0;crossing 0 0;road 0 1;road 1 2;road 2 0;";

    public static void main(String[] args) {
        then();
        points();
        comes();
        meet();
        gone();
        later();
        round();
        best();
        first();
        visited();
        uneven();
        together();
        taken();
        covered();
        parting();
        purse();
        cuts();
        CHECK.end("AheadTest");
    }

    private static TurnPosts small() {
        return Texts.of(Texts.SMALL);
    }

    /** One who goes home on the given day, and never else. */
    private static TurnPosts lateGoer(int day) {
        return Texts.of(PAIR + "person 0 1 0;heeds day = " + day + ";");
    }

    private static void then() {
        TurnPosts posts = small();
        int[][] due = {{0, 5, 0}, {1, 5, 1}, {0, 4, 2}, {1, 4, 3}, {3, 4, 4}, {3, 4, 4}};
        for (int day = 0; day < due.length; day++) {
            for (int what = 0; what < 3; what++) {
                CHECK.due("then(0, " + day + ", " + what + ")", posts.then(0, day, what), due[day][what]);
            }
        }
        CHECK.due("then(0, 100, 0)", posts.then(0, 100, 0), 3);
        CHECK.noSuch("then(3, 0, 0)", () -> posts.then(3, 0, 0));
        CHECK.noSuch("then(-1, 101, 0)", () -> posts.then(-1, 101, 0));
        CHECK.noSuch("then(0, 101, 3)", () -> posts.then(0, 101, 3));
        CHECK.noSuch("then(0, 0, -1)", () -> posts.then(0, 0, -1));
        CHECK.illegal("then(0, 101, 0)", () -> posts.then(0, 101, 0));
        CHECK.illegal("then(0, -1, 0)", () -> posts.then(0, -1, 0));
        CHECK.due("nothing changes", posts.person(0, 0), 0);
        CHECK.due("no day goes by", posts.count(2), 0);
        posts.days(2);
        CHECK.due("then(0, 2, 2) from day 2", posts.then(0, 2, 2), 2);
    }

    private static void points() {
        TurnPosts posts = small();
        int[] due = {0, 0, 0, 1, 1};
        for (int day = 0; day < due.length; day++) {
            CHECK.due("points(0, " + day + ")", posts.points(0, day), due[day]);
        }
        CHECK.due("points(1, 2)", posts.points(1, 2), 1);
        CHECK.due("points(1, 4)", posts.points(1, 4), 0);
        CHECK.due("without roads", Texts.of("crossing 0 0;").points(0, 100), 0);
        CHECK.noSuch("points(4, 101)", () -> posts.points(4, 101));
        CHECK.noSuch("points(-1, 0)", () -> posts.points(-1, 0));
        CHECK.illegal("points(0, 101)", () -> posts.points(0, 101));
        CHECK.illegal("points(0, -1)", () -> posts.points(0, -1));
    }

    private static void comes() {
        TurnPosts posts = small();
        CHECK.due("comes(0, 0)", posts.comes(0, 0), 0);
        CHECK.due("comes(0, 1)", posts.comes(0, 1), 1);
        CHECK.due("comes(0, 3)", posts.comes(0, 3), 4);
        CHECK.due("comes(0, 2)", posts.comes(0, 2), -1);
        CHECK.due("behind 100 days", lateGoer(99).comes(0, 1), 100);
        CHECK.due("behind 101 days", lateGoer(100).comes(0, 1), -1);
        CHECK.noSuch("comes(3, 0)", () -> posts.comes(3, 0));
        CHECK.noSuch("comes(0, 4)", () -> posts.comes(0, 4));
        CHECK.noSuch("comes(0, -1)", () -> posts.comes(0, -1));
    }

    private static void meet() {
        TurnPosts posts = small();
        CHECK.due("meet(0, 1)", posts.meet(0, 1), 0);
        CHECK.due("meet(2, 0)", posts.meet(2, 0), 1);
        CHECK.due("meet(1, 2)", posts.meet(1, 2), -1);
        CHECK.due("meet(1, 1)", posts.meet(1, 1), -1);
        CHECK.due("behind 100 days", Texts.of(PAIR + "person 0 1 0;person 1 1 0;heeds day = 99;").meet(0, 1), 100);
        CHECK.due("behind 101 days", Texts.of(PAIR + "person 0 1 0;person 1 1 0;heeds day = 100;").meet(0, 1), -1);
        CHECK.noSuch("meet(0, 3)", () -> posts.meet(0, 3));
        CHECK.noSuch("meet(3, 3)", () -> posts.meet(3, 3));
        CHECK.noSuch("meet(-1, 0)", () -> posts.meet(-1, 0));
    }

    private static void gone() {
        TurnPosts posts = small();
        CHECK.due("gone(0, 0, 0)", posts.gone(0, 0, 0), 0);
        CHECK.due("gone(0, 0, 2)", posts.gone(0, 0, 2), 1);
        CHECK.due("gone(0, 0, 3)", posts.gone(0, 0, 3), 2);
        CHECK.due("gone(3, 0, 100)", posts.gone(3, 0, 100), 0);
        TurnPosts ring = Texts.of(RING + "person 0 3 0;person 1 3 0;");
        CHECK.due("round and round", ring.gone(0, 0, 100), 34 + 33);
        TurnPosts poor = Texts.of("crossing 0 0;crossing 1 0;road 0 1;person 0 1 0;");
        CHECK.due("who stays goes no road", poor.gone(0, 0, 9), 0);
        CHECK.noSuch("gone(0, 2, 101)", () -> posts.gone(0, 2, 101));
        CHECK.noSuch("gone(4, 0, 0)", () -> posts.gone(4, 0, 0));
        CHECK.illegal("gone(0, 0, 101)", () -> posts.gone(0, 0, 101));
        CHECK.illegal("gone(0, 0, -1)", () -> posts.gone(0, 0, -1));
    }

    private static void later() {
        TurnPosts posts = small();
        int[] home = {4, 4, 6, 6, 7};
        for (int day = 0; day < home.length; day++) {
            CHECK.due("later(" + day + ", 0)", posts.later(day, 0), home[day]);
        }
        CHECK.due("later(100, 1)", posts.later(100, 1), 2);
        TurnPosts tolls = Texts.of("crossing 0 0;crossing 5 0;road 0 1;person 0 1 9;person 0 0 4;person 0 0 4;");
        CHECK.due("poorest now", tolls.later(0, 1), 1);
        CHECK.due("poorest of like ones", tolls.later(1, 1), 0);
        CHECK.due("busiest of 1", posts.later(1, 2), 1);
        CHECK.due("busiest of 4", posts.later(4, 2), 1);
        CHECK.due("busiest of 100", posts.later(100, 2), 3);
        CHECK.due("busiest of 1 again", posts.later(1, 2), 1);
        TurnPosts oneDay = Texts.of(PAIR + "road 1 0;crossing 0 0;person 0 2 0;person 1 2 0;person 0 0 0;");
        CHECK.due("at the ends of days, not now", oneDay.later(1, 2), 0);
        TurnPosts there = Texts.of(RING + "person 0 3 0;");
        CHECK.due("not beyond these days", there.later(1, 2), 1);
        CHECK.due("the least of two days", there.later(2, 2), 1);
        CHECK.due("the least of three days", there.later(3, 2), 0);
        CHECK.due("poorest with 99", Texts.of(PAIR + "person 0 1 99;").later(0, 1), 0);
        TurnPosts like = Texts.of("crossing 0 0;crossing 0 0;crossing 0 0;person 2 2 0;person 1 1 0;");
        CHECK.due("busiest of like ones", like.later(5, 2), 1);
        CHECK.due("nobody is busy", Texts.of(PAIR).later(5, 2), -1);
        CHECK.due("nobody is poor", Texts.of(PAIR).later(5, 1), -1);
        CHECK.due("nobody is home", Texts.of(PAIR).later(5, 0), 0);
        CHECK.due("nobody is stuck", Texts.of(PAIR).later(5, 3), 0);
        TurnPosts stuck = Texts.of("crossing 0 0;crossing 3 0;crossing 0 0;road 0 1;person 0 1 2;person 2 0 9;person 0 1 3;person 0 0 0;");
        CHECK.due("stuck by tolls, without roads", stuck.later(0, 3), 3);
        CHECK.due("stuck later", stuck.later(60, 3), 3);
        CHECK.due("a step on the 20th day", lateGoer(79).later(60, 3), 0);
        CHECK.due("a step on the 21st day", lateGoer(80).later(60, 3), 1);
        CHECK.due("a step ahead of these days", Texts.of(PAIR + "crossing 0 0;person 0 2 0;").later(1, 3), 1);
        CHECK.noSuch("later(101, 4)", () -> posts.later(101, 4));
        CHECK.noSuch("later(0, -1)", () -> posts.later(0, -1));
        for (int what = 0; what < 4; what++) {
            int asked = what;
            CHECK.illegal("later(101, " + what + ")", () -> posts.later(101, asked));
            CHECK.illegal("later(-1, " + what + ")", () -> posts.later(-1, asked));
        }
        CHECK.illegal("later(0, 2)", () -> posts.later(0, 2));
        CHECK.illegal("later(61, 3)", () -> posts.later(61, 3));
    }

    private static void round() {
        CHECK.due("all goes home", small().round(), -1);
        CHECK.due("a ring", Texts.of(RING + "person 0 3 0;").round(), 3);
        CHECK.due("nobody", Texts.of(PAIR).round(), 1);
        CHECK.due("purses don't count", Texts.of("crossing 1 0;crossing 0 0;crossing 0 0;road 0 1;road 1 0;person 0 2 99;").round(), 2);
        CHECK.due("arms count", Texts.of("crossing 0 0;crossing 0 0;crossing 0 0;road 0 1;road 0 1;road 0 1;road 1 0;person 0 2 0;").round(), 6);
        String there = "crossing 0 0;crossing 0 0;crossing 0 0;road 0 1;road 1 0;person 0 2 0;heeds day = 0 or day = ";
        CHECK.due("behind 200 days", Texts.of(there + "199;").round(), 200);
        CHECK.due("behind 201 days", Texts.of(there + "200;").round(), -1);
    }

    private static void best() {
        TurnPosts posts = small();
        CHECK.due("best(0)", posts.best(0), 1);
        CHECK.due("best(1)", posts.best(1), -1);
        CHECK.due("best(2) who is at home", posts.best(2), -1);
        TurnPosts other = Texts.of("crossing 0 0;crossing 0 0;crossing 0 0;road 0 1;road 1 0;road 1 2;person 0 2 0;turns 0;");
        CHECK.due("an arm further on", other.best(0), 11);
        TurnPosts soon = Texts.of("crossing 0 0;crossing 0 0;crossing 0 0;road 0 1;road 1 0;road 1 2;road 0 2;person 0 2 0;turns 0;");
        CHECK.due("the soonest", soon.best(0), 1);
        String late = "crossing 0 0;crossing 0 0;crossing 0 0;road 0 2;road 0 1;person 0 1 0;turns 0;heeds day = ";
        CHECK.due("within 60 days", Texts.of(late + "59;").best(0), 1);
        CHECK.due("not within 60 days", Texts.of(late + "60;").best(0), -1);
        TurnPosts road0 = Texts.of("crossing 0 0;crossing 0 0;crossing 0 0;road 0 1;road 0 2;arm 0 1;person 0 1 0;turns 0;");
        CHECK.due("road 0 of crossing 0", road0.best(0), 0);
        CHECK.noSuch("best(3)", () -> posts.best(3));
        CHECK.noSuch("best(-1)", () -> posts.best(-1));
    }

    private static void first() {
        CHECK.due("first()", small().first(), 1);
        CHECK.due("of like ones the least", Texts.of(PAIR + "person 1 1 0;person 0 1 0;person 0 1 0;").first(), 1);
        CHECK.due("all at home", Texts.of(PAIR + "person 1 1 0;").first(), -1);
        CHECK.due("within 100 days", lateGoer(99).first(), 0);
        CHECK.due("not within 100 days", lateGoer(100).first(), -1);
    }

    private static void visited() {
        TurnPosts posts = small();
        CHECK.due("visited(0, 0)", posts.visited(0, 0), 1);
        CHECK.due("visited(0, 1)", posts.visited(0, 1), 3);
        CHECK.due("visited(0, 4)", posts.visited(0, 4), 11);
        CHECK.due("visited(1, 100)", posts.visited(1, 100), 13);
        CHECK.noSuch("visited(3, 101)", () -> posts.visited(3, 101));
        CHECK.illegal("visited(0, 101)", () -> posts.visited(0, 101));
        CHECK.illegal("visited(0, -1)", () -> posts.visited(0, -1));
    }

    private static void uneven() {
        TurnPosts posts = small();
        CHECK.due("uneven(0, 9)", posts.uneven(0, 9), 1);
        CHECK.due("uneven(0, 2)", posts.uneven(0, 2), 0);
        CHECK.due("uneven(2, 9) of one road", posts.uneven(2, 9), 0);
        CHECK.due("without roads", Texts.of("crossing 0 0;").uneven(0, 9), 0);
        TurnPosts row = Texts.of("crossing 0 0;crossing 0 0;road 0 1;road 0 1;road 1 0;crossing 0 0;person 0 2 0;turns 0;");
        CHECK.due("one road alone", row.uneven(0, 100), 50);
        row.shut(0, 1, true);
        CHECK.due("shut or not", row.uneven(0, 100), 50);
        CHECK.noSuch("uneven(4, 101)", () -> posts.uneven(4, 101));
        CHECK.illegal("uneven(0, 101)", () -> posts.uneven(0, 101));
        CHECK.illegal("uneven(0, -1)", () -> posts.uneven(0, -1));
    }

    private static void together() {
        TurnPosts posts = small();
        CHECK.due("together(0, 1, 3)", posts.together(0, 1, 3), 0);
        CHECK.due("together(0, 1, 5)", posts.together(0, 1, 5), 2);
        CHECK.due("together(0, 2, 4)", posts.together(0, 2, 4), 2);
        CHECK.due("together(0, 0, 7) of one", posts.together(0, 0, 7), 7);
        CHECK.noSuch("together(0, 3, 0)", () -> posts.together(0, 3, 0));
        CHECK.noSuch("together(3, 0, 1)", () -> posts.together(3, 0, 1));
        CHECK.illegal("together(0, 1, 0)", () -> posts.together(0, 1, 0));
        CHECK.illegal("together(0, 1, 101)", () -> posts.together(0, 1, 101));
    }

    private static void taken() {
        TurnPosts posts = small();
        CHECK.due("taken(0, 1)", posts.taken(0, 1), 0);
        CHECK.due("taken(0, 2)", posts.taken(0, 2), 1);
        CHECK.due("taken(2, 1)", posts.taken(2, 1), 2);
        CHECK.due("taken(1, 100)", posts.taken(1, 100), 0);
        TurnPosts more = Texts.of("crossing 0 0;crossing 3 0;crossing 0 0;road 0 1;road 2 1;person 0 1 5;person 2 1 9;person 0 1 2;");
        CHECK.due("by all roads", more.taken(1, 0), 0);
        CHECK.due("by all roads that can pay", more.taken(1, 1), 6);
        CHECK.noSuch("taken(4, 101)", () -> posts.taken(4, 101));
        CHECK.illegal("taken(0, 101)", () -> posts.taken(0, 101));
        CHECK.illegal("taken(0, -1)", () -> posts.taken(0, -1));
    }

    private static void covered() {
        TurnPosts posts = small();
        CHECK.due("covered(0)", posts.covered(0), -1);
        CHECK.due("a ring is covered", Texts.of(RING + "person 0 3 0;").covered(0), 2);
        CHECK.due("nothing to cover", Texts.of(RING + "person 3 3 0;").covered(0), 0);
        CHECK.due("behind 100 days", lateGoer(99).covered(0), 100);
        CHECK.due("behind 101 days", lateGoer(100).covered(0), -1);
        TurnPosts shut = lateGoer(100);
        shut.shut(0, 0, true);
        CHECK.due("by open roads alone", shut.covered(0), 0);
        CHECK.noSuch("covered(3)", () -> posts.covered(3));
    }

    private static void parting() {
        TurnPosts posts = small();
        CHECK.due("parting(0, 1)", posts.parting(0, 1), 1);
        CHECK.due("parting(0, 2) who aren't together", posts.parting(0, 2), -1);
        CHECK.due("parting(0, 0) of one", posts.parting(0, 0), -1);
        String pair = PAIR + "person 0 1 0;person 0 0 0;heeds day = ";
        CHECK.due("behind 100 days", Texts.of(pair + "99;").parting(0, 1), 100);
        CHECK.due("behind 101 days", Texts.of(pair + "100;").parting(0, 1), -1);
        CHECK.due("never", Texts.of(PAIR + "person 0 0 0;person 0 0 0;").parting(0, 1), -1);
        CHECK.noSuch("parting(0, 3)", () -> posts.parting(0, 3));
        CHECK.noSuch("parting(3, 3)", () -> posts.parting(3, 3));
    }

    private static void purse() {
        TurnPosts posts = small();
        CHECK.due("purse(0)", posts.purse(0), 0);
        CHECK.due("purse(2) who is at home", posts.purse(2), 0);
        TurnPosts tolls = Texts.of("crossing 0 0;crossing 3 0;crossing 4 0;road 0 1;road 1 2;person 0 2 99;person 0 0 0;person 2 0 9;");
        CHECK.due("tolls of a way", tolls.purse(0), 7);
        CHECK.due("no way", tolls.purse(2), -1);
        CHECK.due("purses stay", tolls.person(0, 2), 99);
        CHECK.due("all of 99", Texts.of(PAIR + "person 0 1 0;heeds purse = 99;").purse(0), 99);
        CHECK.due("more than 99", Texts.of(PAIR + "person 0 1 0;heeds purse = 100;").purse(0), -1);
        CHECK.due("within 60 days", lateGoer(59).purse(0), 0);
        CHECK.due("not within 60 days", lateGoer(60).purse(0), -1);
        CHECK.noSuch("purse(3)", () -> posts.purse(3));
    }

    private static void cuts() {
        TurnPosts posts = small();
        CHECK.due("cuts(0, 0)", posts.cuts(0, 0), 0);
        CHECK.due("cuts(0, 1)", posts.cuts(0, 1), -1);
        CHECK.due("cuts(2, 0) who is at home", posts.cuts(2, 0), 0);
        TurnPosts row = Texts.of("crossing 0 0;crossing 0 0;crossing 0 0;road 1 2;road 1 2;road 0 1;road 2 0;person 0 2 0;person 2 1 0;turns 0;");
        CHECK.due("how many", row.cuts(0, 0), 2);
        CHECK.due("the first", row.cuts(0, 1), 0);
        CHECK.due("how many of the other", row.cuts(1, 0), 2);
        CHECK.due("the first of the other", row.cuts(1, 1), 0);
        row.shut(0, 0, true);
        CHECK.due("who doesn't come home has none", row.cuts(0, 0), 0);
        CHECK.due("nor a first", row.cuts(0, 1), -1);
        CHECK.due("within 60 days", lateGoer(59).cuts(0, 0), 1);
        CHECK.due("not within 60 days", lateGoer(60).cuts(0, 0), 0);
        TurnPosts just = Texts.of(PAIR + "road 1 0;person 0 1 0;heeds day = 59;");
        CHECK.due("home behind 60 days all the same", just.cuts(0, 0), 1);
        TurnPosts ends = Texts.of("crossing 0 0;crossing 0 0;crossing 0 0;road 2 1;road 2 0;person 2 0 0;turns 0;arm 2 1;");
        CHECK.due("a later road", ends.cuts(0, 1), 21);
        CHECK.due("what is shut already is none", shutThenCuts(ends), 1);
        CHECK.noSuch("cuts(3, 0)", () -> posts.cuts(3, 0));
        CHECK.noSuch("cuts(0, 2)", () -> posts.cuts(0, 2));
        CHECK.noSuch("cuts(0, -1)", () -> posts.cuts(0, -1));
    }

    private static int shutThenCuts(TurnPosts posts) {
        posts.shut(2, 0, true);
        return posts.cuts(0, 0);
    }
}
