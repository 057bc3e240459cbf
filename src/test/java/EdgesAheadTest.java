import java.util.function.IntUnaryOperator;

/** The edges that promises 15 to 21, 23 and 32 to 40 name: days too few and too many, the last day that counts, none, like ones. */
final class EdgesAheadTest {
    private static final Check CHECK = new Check();
    private static final int[] NO_PERSON = {Integer.MIN_VALUE, -1, 3, 8, Integer.MAX_VALUE};
    private static final int[] NO_CROSSING = {Integer.MIN_VALUE, -1, 4, 9, Integer.MAX_VALUE};
    private static final String TWO = "crossing 0 0;crossing 0 0;";
    private static final String THREE = TWO + "crossing 0 0;";

    public static void main(String[] args) {
        nobodyThere();
        noCrossing();
        noWhat();
        daysToHundred();
        daysFromOne();
        noSuchAhead();
        changesNothing();
        full();
        hundredthDay();
        today();
        meetAndPart();
        poorestAndBusiest();
        stuck();
        round();
        best();
        first();
        visitedAndCovered();
        unevenAndTaken();
        together();
        purse();
        cuts();
        CHECK.end("EdgesAheadTest");
    }

    private static TurnPosts small() {
        return Texts.of(Texts.SMALL);
    }

    // ---- who and what there isn't

    private static void nobodyThere() {
        TurnPosts posts = small();
        for (int who : NO_PERSON) {
            CHECK.noSuch("then of " + who, () -> posts.then(who, 0, 0));
            CHECK.noSuch("comes of " + who, () -> posts.comes(who, 0));
            CHECK.noSuch("meet of " + who, () -> posts.meet(who, 0));
            CHECK.noSuch("meet with " + who, () -> posts.meet(0, who));
            CHECK.noSuch("meet of " + who + " with itself", () -> posts.meet(who, who));
            CHECK.noSuch("best of " + who, () -> posts.best(who));
            CHECK.noSuch("visited by " + who, () -> posts.visited(who, 0));
            CHECK.noSuch("together of " + who, () -> posts.together(who, 0, 1));
            CHECK.noSuch("together with " + who, () -> posts.together(0, who, 1));
            CHECK.noSuch("covered by " + who, () -> posts.covered(who));
            CHECK.noSuch("parting of " + who, () -> posts.parting(who, 0));
            CHECK.noSuch("parting with " + who, () -> posts.parting(0, who));
            CHECK.noSuch("parting of " + who + " from itself", () -> posts.parting(who, who));
            CHECK.noSuch("purse of " + who, () -> posts.purse(who));
            CHECK.noSuch("cuts of " + who, () -> posts.cuts(who, 0));
        }
    }

    private static void noCrossing() {
        TurnPosts posts = small();
        for (int crossing : NO_CROSSING) {
            CHECK.noSuch("points of " + crossing, () -> posts.points(crossing, 0));
            CHECK.noSuch("comes to " + crossing, () -> posts.comes(0, crossing));
            CHECK.noSuch("gone from " + crossing, () -> posts.gone(crossing, 0, 0));
            CHECK.noSuch("uneven of " + crossing, () -> posts.uneven(crossing, 0));
            CHECK.noSuch("taken of " + crossing, () -> posts.taken(crossing, 0));
        }
        for (int road : new int[] {Integer.MIN_VALUE, -1, 2, 5, Integer.MAX_VALUE}) {
            CHECK.noSuch("gone by road " + road, () -> posts.gone(0, road, 0));
        }
        CHECK.noSuch("gone without roads", () -> Texts.of("crossing 0 0;").gone(0, 0, 0));
    }

    private static void noWhat() {
        TurnPosts posts = small();
        for (int far : new int[] {Integer.MIN_VALUE, -1, Integer.MAX_VALUE}) {
            CHECK.noSuch("then what " + far, () -> posts.then(0, 0, far));
            CHECK.noSuch("later what " + far, () -> posts.later(1, far));
            CHECK.noSuch("cuts what " + far, () -> posts.cuts(0, far));
        }
        CHECK.noSuch("then what 3", () -> posts.then(0, 0, 3));
        CHECK.noSuch("later what 4", () -> posts.later(1, 4));
        CHECK.noSuch("cuts what 2", () -> posts.cuts(0, 2));
    }

    // ---- days too few, too many

    private static void days(String call, int least, int most, IntUnaryOperator run) {
        for (int days : new int[] {Integer.MIN_VALUE, least - 1, most + 1, Integer.MAX_VALUE}) {
            CHECK.illegal(call + " of " + days, () -> run.applyAsInt(days));
        }
        for (int days : new int[] {least, most}) {
            CHECK.due(call + " of " + days + " is fine", run.applyAsInt(days) >= 0, true);
        }
    }

    private static void daysToHundred() {
        TurnPosts posts = small();
        for (int what = 0; what < 3; what++) {
            int asked = what;
            days("then " + what, 0, 100, days -> posts.then(0, days, asked));
        }
        days("points", 0, 100, days -> posts.points(0, days));
        days("gone", 0, 100, days -> posts.gone(0, 0, days));
        days("later 0", 0, 100, days -> posts.later(days, 0));
        days("later 1", 0, 100, days -> posts.later(days, 1));
        days("later 2", 1, 100, days -> posts.later(days, 2));
        days("later 3", 0, 60, days -> posts.later(days, 3));
        days("visited", 0, 100, days -> posts.visited(0, days));
        days("uneven", 0, 100, days -> posts.uneven(0, days));
        days("taken", 0, 100, days -> posts.taken(0, days));
    }

    private static void daysFromOne() {
        TurnPosts posts = small();
        days("together", 1, 100, days -> posts.together(0, 1, days));
        days("together of one", 1, 100, days -> posts.together(0, 0, days));
    }

    /** NoSuchElementException comes ahead of IllegalArgumentException. */
    private static void noSuchAhead() {
        TurnPosts posts = small();
        for (int days : new int[] {-1, 101}) {
            CHECK.noSuch("then(3)", () -> posts.then(3, days, 0));
            CHECK.noSuch("then(0, what 3)", () -> posts.then(0, days, 3));
            CHECK.noSuch("points(4)", () -> posts.points(4, days));
            CHECK.noSuch("gone(4)", () -> posts.gone(4, 0, days));
            CHECK.noSuch("gone(0, 2)", () -> posts.gone(0, 2, days));
            CHECK.noSuch("later(what 4)", () -> posts.later(days, 4));
            CHECK.noSuch("later(what -1)", () -> posts.later(days, -1));
            CHECK.noSuch("visited(3)", () -> posts.visited(3, days));
            CHECK.noSuch("uneven(4)", () -> posts.uneven(4, days));
            CHECK.noSuch("together(3)", () -> posts.together(3, 0, days));
            CHECK.noSuch("together(0, 3)", () -> posts.together(0, 3, days));
            CHECK.noSuch("taken(4)", () -> posts.taken(4, days));
        }
    }

    /** All of them only look: state and STATUS are as ahead. */
    private static void changesNothing() {
        TurnPosts posts = small();
        posts.days(1);
        posts.image();
        String all = Texts.state(posts) + Texts.status(posts);
        posts.then(0, 100, 0);
        posts.points(0, 100);
        posts.comes(0, 2);
        posts.meet(1, 2);
        posts.gone(0, 0, 100);
        for (int what = 0; what < 4; what++) {
            posts.later(60, what);
        }
        posts.round();
        posts.best(0);
        posts.first();
        posts.visited(0, 100);
        posts.uneven(0, 100);
        posts.together(0, 1, 100);
        posts.taken(0, 100);
        posts.covered(0);
        posts.parting(0, 1);
        posts.purse(0);
        posts.cuts(0, 0);
        CHECK.illegal("then(0, 101, 0)", () -> posts.then(0, 101, 0));
        CHECK.noSuch("then(3, 0, 0)", () -> posts.then(3, 0, 0));
        CHECK.same("nothing changes", Texts.state(posts) + Texts.status(posts), all);
    }

    // ---- a full shire: each of eight goes the same eight steps home

    private static void full() {
        TurnPosts posts = Texts.of(Texts.FULL);
        for (int person = 0; person < 8; person += 7) {
            CHECK.due("then", posts.then(person, 7, 0), 7);
            CHECK.due("then the purse", posts.then(person, 100, 1), 99 - 72);
            CHECK.due("then steps", posts.then(person, 100, 2), 8);
            CHECK.due("comes", posts.comes(person, 8), 8);
            CHECK.due("visited", posts.visited(person, 100), 511);
            CHECK.due("covered", posts.covered(person), 8);
            CHECK.due("purse", posts.purse(person), 72);
            CHECK.due("best", posts.best(person), -1);
            CHECK.due("cuts", posts.cuts(person, 0), 0);
            CHECK.due("no first of cuts", posts.cuts(person, 1), -1);
        }
        CHECK.due("points", posts.points(7, 100), 3);
        CHECK.due("points of the last", posts.points(8, 100), 0);
        CHECK.due("meet", posts.meet(0, 7), 0);
        CHECK.due("parting", posts.parting(0, 7), -1);
        CHECK.due("together", posts.together(0, 7, 100), 100);
        CHECK.due("gone twice", posts.gone(7, 2, 100), 2);
        CHECK.due("gone once", posts.gone(7, 4, 100), 1);
        CHECK.due("not gone", posts.gone(8, 4, 100), 0);
        CHECK.due("uneven", posts.uneven(7, 100), 1);
        CHECK.due("even", posts.uneven(8, 100), 0);
        CHECK.due("taken", posts.taken(8, 100), 72);
        CHECK.due("taken of the first", posts.taken(0, 100), 0);
        CHECK.due("later home", posts.later(8, 0), 255);
        CHECK.due("later poorest", posts.later(8, 1), 0);
        CHECK.due("later busiest", posts.later(100, 2), 8);
        CHECK.due("later stuck", posts.later(60, 3), 0);
        CHECK.due("first", posts.first(), 0);
        CHECK.due("round", posts.round(), -1);
        // Where arms stay at road 4, each of these is a cut but for that of home itself.
        TurnPosts arms = Texts.of(Texts.FULL + "turns 0;");
        for (int crossing = 0; crossing < 9; crossing++) {
            arms.turn(crossing, 4);
        }
        CHECK.due("eight cuts", arms.cuts(7, 0), 8);
        CHECK.due("the first of them", arms.cuts(7, 1), 4);
        arms.shut(7, 4, true);
        CHECK.due("the last arm to home", arms.best(7), 70);
        CHECK.due("all are stuck", arms.later(7, 3), 255);
    }

    // ---- the last day of 100, and the first behind them

    private static void hundredthDay() {
        TurnPosts posts = Texts.of("crossing 0 0;crossing 5 0;road 0 1;road 0 1;person 0 1 9;person 1 1 5;heeds day = 99;");
        int[] ahead = {0, 9, 0};
        int[] then = {1, 4, 1};
        for (int what = 0; what < 3; what++) {
            CHECK.due("then 99 " + what, posts.then(0, 99, what), ahead[what]);
            CHECK.due("then 100 " + what, posts.then(0, 100, what), then[what]);
        }
        CHECK.due("points 99", posts.points(0, 99), 0);
        CHECK.due("points 100", posts.points(0, 100), 1);
        CHECK.due("comes", posts.comes(0, 1), 100);
        CHECK.due("meet", posts.meet(0, 1), 100);
        CHECK.due("meet the other way", posts.meet(1, 0), 100);
        CHECK.due("gone 99", posts.gone(0, 0, 99), 0);
        CHECK.due("gone 100", posts.gone(0, 0, 100), 1);
        CHECK.due("home 99", posts.later(99, 0), 2);
        CHECK.due("home 100", posts.later(100, 0), 3);
        CHECK.due("poorest 99", posts.later(99, 1), 1);
        CHECK.due("poorest 100", posts.later(100, 1), 0);
        CHECK.due("busiest 99, of like ones", posts.later(99, 2), 0);
        CHECK.due("busiest 100", posts.later(100, 2), 1);
        CHECK.due("first", posts.first(), 0);
        CHECK.due("visited 99", posts.visited(0, 99), 1);
        CHECK.due("visited 100", posts.visited(0, 100), 3);
        CHECK.due("uneven 99", posts.uneven(0, 99), 0);
        CHECK.due("uneven 100", posts.uneven(0, 100), 1);
        CHECK.due("together 99", posts.together(0, 1, 99), 0);
        CHECK.due("together 100", posts.together(0, 1, 100), 1);
        CHECK.due("taken 99", posts.taken(1, 99), 0);
        CHECK.due("taken 100", posts.taken(1, 100), 5);
        CHECK.due("covered", posts.covered(0), 100);
        TurnPosts late = Texts.of("crossing 0 0;crossing 5 0;road 0 1;road 0 1;person 0 1 9;person 1 1 5;person 0 0 0;heeds day = 100;");
        CHECK.due("comes not", late.comes(0, 1), -1);
        CHECK.due("meet not", late.meet(0, 1), -1);
        CHECK.due("first nobody", late.first(), -1);
        CHECK.due("covered not", late.covered(0), -1);
        CHECK.due("parting not", late.parting(0, 2), -1);
        late.days(1);
        CHECK.due("a day on: comes", late.comes(0, 1), 100);
        CHECK.due("a day on: meet", late.meet(0, 1), 100);
        CHECK.due("a day on: first", late.first(), 0);
        CHECK.due("a day on: covered", late.covered(0), 100);
        CHECK.due("a day on: parting", late.parting(0, 2), 100);
    }

    /** Behind 0 days, all is as now. */
    private static void today() {
        TurnPosts posts = small();
        posts.days(1);
        posts.turn(1, 0);
        for (int person = 0; person < 3; person++) {
            CHECK.due("then where", posts.then(person, 0, 0), posts.person(person, 0));
            CHECK.due("then the purse", posts.then(person, 0, 1), posts.person(person, 2));
            CHECK.due("then no steps", posts.then(person, 0, 2), 0);
            CHECK.due("comes at once", posts.comes(person, posts.person(person, 0)), 0);
            CHECK.due("visited where one is", posts.visited(person, 0), 1 << posts.person(person, 0));
        }
        for (int crossing = 0; crossing < 4; crossing++) {
            CHECK.due("points", posts.points(crossing, 0), posts.crossing(crossing, 3));
            CHECK.due("uneven", posts.uneven(crossing, 0), 0);
            CHECK.due("taken", posts.taken(crossing, 0), 0);
            CHECK.due("gone", posts.gone(crossing, 0, 0), 0);
        }
        CHECK.due("home", posts.later(0, 0), posts.count(5));
        CHECK.due("poorest", posts.later(0, 1), 2);
        TurnPosts bare = Texts.of("crossing 0 0;person 0 0 0;");
        CHECK.due("points without roads", bare.points(0, 0), 0);
        CHECK.due("points without roads behind 100", bare.points(0, 100), 0);
        CHECK.due("uneven without roads", bare.uneven(0, 0), 0);
        CHECK.due("uneven without roads in 100", bare.uneven(0, 100), 0);
    }

    private static void meetAndPart() {
        TurnPosts posts = small();
        CHECK.due("both are one", posts.meet(2, 2), -1);
        CHECK.due("both are one: no parting", posts.parting(2, 2), -1);
        CHECK.due("now", posts.meet(0, 1), 0);
        CHECK.due("not together now", posts.parting(1, 2), -1);
        // They part on the second day only.
        TurnPosts second = Texts.of(THREE + "road 0 1;road 1 0;person 0 2 0;person 0 1 0;");
        CHECK.due("not on the first", second.parting(0, 1), 2);
        CHECK.due("the other way", second.parting(1, 0), 2);
        // Each goes where the other one was: they are never at one crossing at an end of a day.
        TurnPosts past = Texts.of(THREE + "road 0 1;road 1 0;person 0 2 0;person 1 2 0;");
        CHECK.due("by one another", past.meet(0, 1), -1);
        CHECK.due("never together, no parting", past.parting(0, 1), -1);
        CHECK.due("never together", past.together(0, 1, 100), 0);
    }

    private static void poorestAndBusiest() {
        TurnPosts like = Texts.of(TWO + "person 1 1 7;person 0 0 7;person 0 0 8;");
        CHECK.due("poorest of like ones", like.later(0, 1), 0);
        like.fill(2, 6);
        CHECK.due("the last one", like.later(0, 1), 2);
        CHECK.due("busiest", like.later(1, 2), 0);
        like.set(2, 1);
        CHECK.due("the busiest of more", like.later(1, 2), 1);
        like.set(1, 1);
        CHECK.due("all at one", like.later(100, 2), 1);
        TurnPosts rich = Texts.of(TWO + "person 1 1 99;person 0 0 99;");
        CHECK.due("all hold 99", rich.later(100, 1), 0);
        CHECK.due("of like ones the least", rich.later(100, 2), 0);
        CHECK.due("nobody: poorest", Texts.of(TWO).later(0, 1), -1);
        CHECK.due("nobody: busiest", Texts.of(TWO).later(1, 2), -1);
        CHECK.due("nobody: home", Texts.of(TWO).later(0, 0), 0);
        CHECK.due("nobody: stuck", Texts.of(TWO).later(0, 3), 0);
        // Where all stand now doesn't count, only the ends of days.
        TurnPosts left = Texts.of(TWO + "road 0 1;" + "person 0 1 0;".repeat(8));
        CHECK.due("whom all leave", left.later(1, 2), 1);
    }

    private static void stuck() {
        String one = TWO + "road 0 1;person 0 1 0;heeds day = ";
        CHECK.due("behind 0: a step on the 20th day", Texts.of(one + "19;").later(0, 3), 0);
        CHECK.due("behind 0: a step on the 21st day", Texts.of(one + "20;").later(0, 3), 1);
        CHECK.due("behind 1: a step on the 21st day", Texts.of(one + "20;").later(1, 3), 0);
        CHECK.due("behind 60: a step on the 80th day", Texts.of(one + "79;").later(60, 3), 0);
        CHECK.due("behind 60: a step on the 81st day", Texts.of(one + "80;").later(60, 3), 1);
        CHECK.due("behind 60: a step on the 60th day", Texts.of(one + "59;").later(60, 3), 0);
        CHECK.due("who is at home isn't", Texts.of(TWO + "person 0 0 0;person 0 1 0;").later(0, 3), 2);
        TurnPosts all = Texts.of(TWO + "person 0 1 0;".repeat(8));
        CHECK.due("all eight", all.later(60, 3), 255);
        // A step ahead of these days doesn't count.
        CHECK.due("one step, then none", Texts.of(THREE + "road 0 1;person 0 2 0;").later(1, 3), 1);
        CHECK.due("one step still to go", Texts.of(THREE + "road 0 1;person 0 2 0;").later(0, 3), 0);
    }

    private static void round() {
        String there = THREE + "road 0 1;road 1 0;person 0 2 9;";
        CHECK.due("there and back", Texts.of(there).round(), 2);
        CHECK.due("all stay", Texts.of(TWO + "person 0 0 0;").round(), 1);
        CHECK.due("nobody", Texts.of(TWO + "road 0 1;").round(), 1);
        CHECK.due("nobody goes", Texts.of(there + "heeds 0;").round(), 1);
        CHECK.due("the 200th day", Texts.of(there + "heeds (day = 0) + (day = 199);").round(), 200);
        CHECK.due("the 201st day", Texts.of(there + "heeds (day = 0) + (day = 200);").round(), -1);
        // One stays, too poor, and the arm goes round five roads.
        TurnPosts arm = Texts.of("crossing 0 0;crossing 9 0;" + "road 0 1;".repeat(5) + "person 0 1 8;");
        CHECK.due("only an arm", arm.round(), 5);
        arm.turn(0, 3);
        CHECK.due("from where it points", arm.round(), 5);
        // The last arm and the last one count, too: both arms are as now behind 2 and 3 days, both behind 6.
        TurnPosts both = Texts.of("crossing 0 0;crossing 0 0;crossing 9 0;road 0 2;road 0 2;road 1 2;road 1 2;road 1 2;person 0 2 0;person 1 2 0;");
        CHECK.due("all arms", both.round(), 6);
        TurnPosts purses = Texts.of("crossing 1 0;crossing 0 0;crossing 0 0;road 0 1;road 1 0;person 0 2 99;");
        CHECK.due("purses don't count", purses.round(), 2);
    }

    private static void best() {
        String fork = THREE + "road 0 2;road 0 1;person 0 1 0;turns 0;";
        CHECK.due("the one that helps", Texts.of(fork).best(0), 1);
        TurnPosts home = Texts.of(fork);
        home.set(0, 1);
        CHECK.due("at home", home.best(0), -1);
        TurnPosts shut = Texts.of(fork);
        shut.shut(0, 1, true);
        CHECK.due("shut", shut.best(0), -1);
        CHECK.due("within 60 days", Texts.of(fork + "heeds day = 59;").best(0), 1);
        CHECK.due("not within 60 days", Texts.of(fork + "heeds day = 60;").best(0), -1);
        TurnPosts late = Texts.of(fork + "heeds day = 60;");
        late.days(1);
        CHECK.due("a day on", late.best(0), 1);
        // Home behind 1 day as it is: no sooner by any.
        CHECK.due("no sooner", Texts.of(THREE + "road 0 1;road 0 1;person 0 1 0;").best(0), -1);
        // Home behind 2 days without, behind 1 by either of two roads: the least.
        CHECK.due("of like ones the least", Texts.of(THREE + "road 0 2;road 0 1;road 0 1;road 2 1;person 0 1 0;").best(0), 1);
        // By road 0 of the second crossing soonest, by road 1 of the first one sooner than without.
        TurnPosts soon = Texts.of("crossing 0 0;".repeat(5) + "road 1 2;road 1 3;road 2 4;road 4 0;road 3 0;road 2 0;person 1 0 0;turns 0;");
        CHECK.due("2 days by 11, 2 by 21: the least", soon.best(0), 11);
        TurnPosts last = Texts.of("crossing 0 0;".repeat(9) + "road 8 1;road 8 1;road 8 1;road 8 1;road 8 0;person 8 0 0;turns 0;");
        CHECK.due("the last of all", last.best(0), 84);
        // Without it one is home behind 61 days, by it behind 60.
        String slow = THREE + "road 0 2;road 0 1;road 2 1;person 0 1 0;turns 0;heeds (day = 59) + (day = 60);";
        CHECK.due("60 days instead of 61", Texts.of(slow).best(0), 1);
    }

    private static void first() {
        CHECK.due("nobody", Texts.of(TWO).first(), -1);
        CHECK.due("all at home", Texts.of(TWO + "person 0 0 0;person 1 1 0;").first(), -1);
        CHECK.due("of like ones the least", Texts.of(TWO + "road 0 1;person 1 1 0;person 0 1 0;person 0 1 0;").first(), 1);
        CHECK.due("the last of eight", Texts.of(TWO + "road 0 1;" + "person 0 0 0;".repeat(7) + "person 0 1 0;").first(), 7);
        // The second one is there a day sooner.
        CHECK.due("sooner, not less", Texts.of(THREE + "road 0 1;road 1 2;person 0 2 0;person 1 2 0;").first(), 1);
        CHECK.due("never", Texts.of(TWO + "person 0 1 0;").first(), -1);
    }

    private static void visitedAndCovered() {
        String ring = THREE + "crossing 0 0;road 0 1;road 1 2;road 2 0;person 0 3 0;";
        TurnPosts posts = Texts.of(ring);
        CHECK.due("now", posts.visited(0, 0), 1);
        CHECK.due("and one day", posts.visited(0, 1), 3);
        CHECK.due("and two", posts.visited(0, 2), 7);
        CHECK.due("all round", posts.visited(0, 100), 7);
        CHECK.due("covered", posts.covered(0), 2);
        TurnPosts still = Texts.of(ring + "person 3 0 0;");
        CHECK.due("only where one is is reached", still.covered(1), 0);
        TurnPosts home = Texts.of(TWO + "road 0 1;person 0 0 0;");
        CHECK.due("at home, and there is a way", home.covered(0), -1);
        home.shut(0, 0, true);
        CHECK.due("at home, and it is shut", home.covered(0), 0);
        // The arm must turn so that both are come to: 1 on the first day, 2 on the third.
        TurnPosts arm = Texts.of("crossing 0 0;".repeat(4) + "road 0 1;road 0 2;road 1 0;road 2 0;person 0 3 0;");
        CHECK.due("by an arm that turns", arm.covered(0), 3);
        TurnPosts stuck = Texts.of("crossing 0 0;".repeat(4) + "road 0 1;road 0 2;road 1 0;road 2 0;person 0 3 0;turns 0;");
        CHECK.due("by an arm that doesn't", stuck.covered(0), -1);
        // What is reached is asked now: whether purses hold enough doesn't count.
        CHECK.due("too poor", Texts.of("crossing 0 0;crossing 1 0;road 0 1;person 0 1 0;").covered(0), -1);
    }

    private static void unevenAndTaken() {
        // The last road is gone most, the first one least; one road alone is even.
        String fork = THREE + "road 0 1;road 0 1;road 0 1;road 1 0;arm 0 2;person 0 2 0;";
        TurnPosts posts = Texts.of(fork + "turns 0;");
        CHECK.due("the last road", posts.uneven(0, 9), 5);
        CHECK.due("one road", posts.uneven(1, 9), 0);
        CHECK.due("in one day", posts.uneven(0, 1), 1);
        CHECK.due("in no day", posts.uneven(0, 0), 0);
        posts.shut(0, 0, true);
        CHECK.due("shut or not", posts.uneven(0, 9), 5);
        posts.shut(0, 0, false);
        posts.shut(0, 2, true);
        CHECK.due("nobody goes", posts.uneven(0, 9), 0);
        TurnPosts first = Texts.of(THREE + "road 0 1;road 0 1;road 0 1;road 1 0;person 0 2 0;turns 0;");
        CHECK.due("the first road", first.uneven(0, 9), 5);
        first.turn(0, 1);
        CHECK.due("the middle road", first.uneven(0, 9), 5);
        CHECK.due("round and round", Texts.of(fork).uneven(0, 100), 1);
        CHECK.due("each three times", Texts.of(fork).uneven(0, 18), 0);
        TurnPosts tolls = Texts.of("crossing 2 0;crossing 3 0;crossing 0 0;road 0 1;road 1 0;person 0 2 12;");
        int[] first9 = {0, 0, 2, 2, 4, 4, 4};
        int[] second9 = {0, 3, 3, 6, 6, 6, 6};
        for (int days = 0; days < first9.length; days++) {
            CHECK.due("taken of 0 in " + days, tolls.taken(0, days), first9[days]);
            CHECK.due("taken of 1 in " + days, tolls.taken(1, days), second9[days]);
            CHECK.due("taken of 2 in " + days, tolls.taken(2, days), 0);
        }
        CHECK.due("as much as the purse holds, and 2 left", tolls.taken(0, 100) + tolls.taken(1, 100), 10);
    }

    private static void together() {
        TurnPosts posts = small();
        CHECK.due("together now doesn't count", posts.together(0, 1, 1), 0);
        CHECK.due("one day", posts.together(0, 2, 1), 1);
        CHECK.due("one with oneself", posts.together(1, 1, 1), 1);
        CHECK.due("one with oneself all days", posts.together(1, 1, 100), 100);
        TurnPosts home = Texts.of(TWO + "person 0 0 0;person 0 1 0;");
        CHECK.due("all days", home.together(0, 1, 100), 100);
        home.set(1, 1);
        CHECK.due("none", home.together(0, 1, 100), 0);
    }

    private static void purse() {
        String step = "crossing 0 0;crossing 9 0;road 0 1;person 0 1 ";
        CHECK.due("at home", Texts.of(TWO + "person 0 0 9;").purse(0), 0);
        CHECK.due("just the toll", Texts.of(step + "0;").purse(0), 9);
        CHECK.due("whatever it holds", Texts.of(step + "99;").purse(0), 9);
        CHECK.due("no road", Texts.of(TWO + "person 0 1 99;").purse(0), -1);
        CHECK.due("99", Texts.of(TWO + "road 0 1;person 0 1 0;heeds 98 < purse;").purse(0), 99);
        CHECK.due("100", Texts.of(TWO + "road 0 1;person 0 1 0;heeds 99 < purse;").purse(0), -1);
        CHECK.due("no more than that", Texts.of(TWO + "road 0 1;person 0 1 50;heeds purse < 7 and 2 < purse;").purse(0), 3);
        CHECK.due("the 60th day", Texts.of(TWO + "road 0 1;person 0 1 0;heeds day = 59;").purse(0), 0);
        CHECK.due("the 61st day", Texts.of(TWO + "road 0 1;person 0 1 0;heeds day = 60;").purse(0), -1);
        TurnPosts shut = Texts.of(step + "99;");
        shut.shut(0, 0, true);
        CHECK.due("shut", shut.purse(0), -1);
    }

    private static void cuts() {
        String one = TWO + "road 0 1;person 0 1 0;heeds day = ";
        CHECK.due("the 60th day", Texts.of(one + "59;").cuts(0, 0), 1);
        CHECK.due("the 60th day: the first", Texts.of(one + "59;").cuts(0, 1), 0);
        CHECK.due("the 61st day", Texts.of(one + "60;").cuts(0, 0), 0);
        CHECK.due("the 61st day: none", Texts.of(one + "60;").cuts(0, 1), -1);
        CHECK.due("at home", Texts.of(TWO + "road 0 1;person 0 0 0;").cuts(0, 0), 0);
        CHECK.due("at home: none", Texts.of(TWO + "road 0 1;person 0 0 0;").cuts(0, 1), -1);
        CHECK.due("two roads, neither is one", Texts.of(TWO + "road 0 1;road 0 1;person 0 1 0;").cuts(0, 0), 0);
        // What is shut stays shut: with road 0 shut, road 1 is a cut, and the arm goes on to it.
        TurnPosts shut = Texts.of(TWO + "road 0 1;road 0 1;person 0 1 0;");
        shut.shut(0, 0, true);
        CHECK.due("what is shut already is none", shut.cuts(0, 0), 1);
        CHECK.due("the other road is", shut.cuts(0, 1), 1);
        TurnPosts far = Texts.of(TWO + "road 0 1;road 0 1;road 0 1;person 0 1 0;");
        far.shut(0, 0, true);
        CHECK.due("either of two is left", far.cuts(0, 0), 0);
        // Home behind 1 day; with road 0 shut by a detour behind 61.
        String slow = THREE + "road 0 1;road 0 2;road 2 1;person 0 1 0;heeds (day < 2) + (day = 60);";
        CHECK.due("home too late", Texts.of(slow).cuts(0, 0), 1);
        TurnPosts all = Texts.of("crossing 0 0;".repeat(9) + "road 0 1;road 1 2;road 2 3;road 3 4;road 4 5;road 5 6;road 6 7;road 7 8;"
                + "person 0 8 0;person 7 8 0;");
        CHECK.due("eight in a row", all.cuts(0, 0), 8);
        CHECK.due("the last of them", all.cuts(1, 0), 1);
        CHECK.due("the last of them: 70", all.cuts(1, 1), 70);
    }
}
