/** Promises 5 to 8: count, crossing, road, person. */
final class NowTest {
    private static final Check CHECK = new Check();

    public static void main(String[] args) {
        small();
        parts();
        watched();
        CHECK.end("NowTest");
    }

    private static void small() {
        TurnPosts posts = Texts.of(Texts.SMALL);
        int[] counts = {4, 3, 0, 6, 0, 4, 2, 6, 14, 0, 0, 0, 0, 0, 0};
        for (int what = 0; what < counts.length; what++) {
            CHECK.due("count(" + what + ")", posts.count(what), counts[what]);
        }
        CHECK.noSuch("count(15)", () -> posts.count(15));
        CHECK.noSuch("count(-1)", () -> posts.count(-1));
        int[] first = {1, 1, 2, 0, 3, 3, 15};
        for (int what = 0; what < first.length; what++) {
            CHECK.due("crossing(0, " + what + ")", posts.crossing(0, what), first[what]);
        }
        CHECK.noSuch("crossing(0, 7)", () -> posts.crossing(0, 7));
        CHECK.noSuch("crossing(0, -1)", () -> posts.crossing(0, -1));
        CHECK.noSuch("crossing(4, 0)", () -> posts.crossing(4, 0));
        CHECK.noSuch("crossing(-1, 0)", () -> posts.crossing(-1, 0));
        CHECK.due("road(1, 0, 0)", posts.road(1, 0, 0), 0);
        CHECK.due("road(1, 1, 0)", posts.road(1, 1, 0), 3);
        CHECK.due("road(1, 1, 1)", posts.road(1, 1, 1), 0);
        posts.shut(1, 1, true);
        CHECK.due("road(1, 1, 1) that is shut", posts.road(1, 1, 1), 1);
        CHECK.due("road(1, 0, 1)", posts.road(1, 0, 1), 0);
        CHECK.due("count(3) counts what is shut, too", posts.count(3), 6);
        CHECK.due("count(4)", posts.count(4), 1);
        posts.shut(0, 0, true);
        posts.shut(3, 0, true);
        CHECK.due("count(4) of all", posts.count(4), 3);
        CHECK.due("crossing(1, 2) counts what is shut, too", posts.crossing(1, 2), 2);
        CHECK.noSuch("road(1, 2, 0)", () -> posts.road(1, 2, 0));
        CHECK.noSuch("road(1, -1, 0)", () -> posts.road(1, -1, 0));
        CHECK.noSuch("road(4, 0, 0)", () -> posts.road(4, 0, 0));
        CHECK.noSuch("road(1, 0, 2)", () -> posts.road(1, 0, 2));
        int[] person = {0, 3, 5, 0, 1};
        for (int what = 0; what < person.length; what++) {
            CHECK.due("person(0, " + what + ")", posts.person(0, what), person[what]);
        }
        CHECK.due("person(2, 3)", posts.person(2, 3), -1);
        CHECK.due("person(2, 4)", posts.person(2, 4), 0);
        CHECK.noSuch("person(3, 0)", () -> posts.person(3, 0));
        CHECK.noSuch("person(-1, 0)", () -> posts.person(-1, 0));
        CHECK.noSuch("person(0, 5)", () -> posts.person(0, 5));
        CHECK.noSuch("person(0, -1)", () -> posts.person(0, -1));
        TurnPosts bare = Texts.of("crossing 4 0;");
        CHECK.due("an arm without roads", bare.crossing(0, 3), 0);
        CHECK.noSuch("a road without roads", () -> bare.road(0, 0, 0));
        TurnPosts told = Texts.of("crossing 4 0;crossing 0 0;road 0 1;road 0 1;arm 0 1;road 0 1;");
        CHECK.due("an arm that is told", told.crossing(0, 3), 1);
    }

    private static void parts() {
        TurnPosts posts = Texts.of("crossing 0 0;".repeat(5) + "road 0 1;road 1 2;road 2 0;road 2 3;road 3 4;");
        CHECK.due("parts", posts.count(6), 3);
        CHECK.due("part of 1", posts.crossing(1, 5), 7);
        CHECK.due("part of 3", posts.crossing(3, 5), 8);
        CHECK.due("reached from 3", posts.crossing(3, 6), 24);
        CHECK.due("reached from 0", posts.crossing(0, 6), 31);
        posts.shut(2, 0, true);
        CHECK.due("parts by open roads", posts.count(6), 5);
        CHECK.due("part of 1 alone", posts.crossing(1, 5), 2);
        CHECK.due("reached from 2", posts.crossing(2, 6), 28);
    }

    private static void watched() {
        TurnPosts star = Texts.of("crossing 0 0;".repeat(5) + "road 0 4;road 4 1;road 2 4;road 4 3;");
        CHECK.due("one watches a star", star.count(7), 16);
        TurnPosts ring = Texts.of("crossing 0 0;".repeat(4) + "road 0 1;road 1 2;road 2 3;road 3 0;");
        CHECK.due("two watch a ring", ring.count(7), 5);
        ring.shut(0, 0, true);
        ring.shut(2, 0, true);
        CHECK.due("whatever is shut needs no watch", ring.count(7), 3);
        TurnPosts pair = Texts.of("crossing 0 0;crossing 0 0;road 1 0;");
        CHECK.due("of as few the least", pair.count(7), 1);
        StringBuilder all = new StringBuilder("crossing 0 0;".repeat(9));
        for (int from = 0; from < 9; from++) {
            for (int on = 1; on <= 4; on++) {
                all.append("road ").append(from).append(' ').append((from + on) % 9).append(';');
            }
        }
        CHECK.due("eight watch all of nine", Texts.of(all.toString()).count(7), 255);
        CHECK.due("no roads, no watch", Texts.of("crossing 0 0;crossing 0 0;").count(7), 0);
    }
}
