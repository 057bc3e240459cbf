/** Promises 25 to 28: see, forget, turned, look. */
final class SeenTest {
    private static final Check CHECK = new Check();

    public static void main(String[] args) {
        see();
        turned();
        look();
        CHECK.end("SeenTest");
    }

    private static void see() {
        TurnPosts posts = Texts.of(Texts.SMALL);
        CHECK.due("see(0, 0, 21)", posts.see(0, 0, 21), -1);
        CHECK.due("see(0, 0, -1)", posts.see(0, 0, -1), -1);
        for (int i = 1; i <= 8; i++) {
            CHECK.due("see " + i, posts.see(i % 3, i % 4, i == 1 ? 0 : 20), i);
        }
        CHECK.due("see 9", posts.see(0, 0, 0), -1);
        CHECK.due("count(10)", posts.count(10), 8);
        CHECK.due("count(14)", posts.count(14), 3);
        CHECK.noSuch("see(3, 0, 0)", () -> posts.see(3, 0, 0));
        CHECK.noSuch("see(0, 4, 99)", () -> posts.see(0, 4, 99));
        CHECK.noSuch("see(-1, 0, 0)", () -> posts.see(-1, 0, 0));
        CHECK.due("count(14) stays", posts.count(14), 3);
        CHECK.due("it is no act", posts.count(9), 0);
        posts.forget();
        CHECK.due("forgotten", posts.count(10), 0);
        CHECK.due("see anew", posts.see(0, 0, 0), 1);
    }

    private static void turned() {
        TurnPosts posts = Texts.of(Texts.SMALL);
        CHECK.due("all that could be", posts.turned(0), 2);
        CHECK.due("the first", posts.turned(1), 1);
        CHECK.due("without", posts.turned(2), 1);
        posts.see(0, 3, 2);
        CHECK.due("by which 0 is at 3 behind 2 days", posts.turned(0), 2);
        CHECK.due("not without", posts.turned(2), 0);
        posts.see(0, 1, 1);
        CHECK.due("and at 1 behind 1 day", posts.turned(0), 1);
        CHECK.due("it was the arm of 1", posts.turned(1), 11);
        posts.see(2, 0, 20);
        CHECK.due("none", posts.turned(0), 0);
        CHECK.due("no first", posts.turned(1), -1);
        CHECK.noSuch("turned(3)", () -> posts.turned(3));
        CHECK.noSuch("turned(-1)", () -> posts.turned(-1));
        TurnPosts now = Texts.of(Texts.SMALL);
        now.see(1, 1, 0);
        CHECK.due("seen now", now.turned(2), 0);
        CHECK.due("no arm can help that", now.turned(0), 0);
        TurnPosts last = Texts.of("crossing 0 0;crossing 0 0;road 0 1;person 0 1 0;heeds day = 19;");
        last.see(0, 1, 20);
        CHECK.due("behind 20 days", last.turned(2), 1);
        last.see(0, 1, 19);
        CHECK.due("not behind 19", last.turned(2), 0);
        // Arms turn in the days that are looked at: down road 0 to 1 and back, then down road 1 to 2.
        TurnPosts turns = Texts.of("crossing 0 0;crossing 0 0;crossing 0 0;road 0 1;road 0 2;road 1 0;person 0 2 0;");
        turns.see(0, 1, 1);
        turns.see(0, 2, 3);
        CHECK.due("arms turn all the while", turns.turned(2), 1);
        turns.forget();
        turns.see(0, 2, 1);
        CHECK.due("the other road first", turns.turned(1), 1);
    }

    private static void look() {
        TurnPosts posts = Texts.of(Texts.SMALL);
        CHECK.due("look(0)", posts.look(0), 0);
        CHECK.due("look(1)", posts.look(1), 1);
        posts.see(0, 0, 2);
        CHECK.due("none left", posts.look(0), -1);
        CHECK.due("none left: 0", posts.look(1), 0);
        CHECK.noSuch("look(2)", () -> posts.look(2));
        CHECK.noSuch("look(-1)", () -> posts.look(-1));
        TurnPosts fork = Texts.of("crossing 0 0;".repeat(5) + "road 0 1;road 0 2;road 0 3;road 0 4;person 2 2 0;person 0 4 0;turns 0;");
        CHECK.due("who", fork.look(0), 1);
        CHECK.due("at three, not where the arm points", fork.look(1), 3);
        fork.see(1, 2, 1);
        CHECK.due("where 1 was", fork.turned(1), 1);
        CHECK.due("of like ones the least", fork.look(0), 0);
        CHECK.due("one place", fork.look(1), 1);
        CHECK.due("nobody", Texts.of("crossing 0 0;crossing 0 0;road 0 1;road 0 1;").look(0), -1);
        CHECK.due("nobody: 0", Texts.of("crossing 0 0;crossing 0 0;road 0 1;road 0 1;").look(1), 0);
        // Behind 6 days from now, not from what is seen: on day 8 both are at 1.
        TurnPosts fromNow = Texts.of("crossing 0 0;".repeat(4) + "road 0 1;road 0 2;road 0 3;road 2 1;road 3 1;"
                + "person 0 1 0;turns 0;heeds (roads = 3) + (day = 7);");
        fromNow.see(0, 1, 8);
        CHECK.due("two by which one is at 1", fromNow.turned(0), 2);
        CHECK.due("at two ahead of that", fromNow.look(1), 2);
        String six = "crossing 0 0;crossing 0 0;crossing 0 0;road 0 1;road 0 2;road 0 1;person 0 0 0;person 0 1 0;turns 0;heeds day = ";
        CHECK.due("behind 6 days", Texts.of(six + "5;").look(0), 1);
        CHECK.due("behind 7 days", Texts.of(six + "6;").look(0), 0);
    }
}
