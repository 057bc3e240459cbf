/** The edges that the Terms and promises 1 to 4 name: tokens, lines, expressions, faults, the tape. */
final class EdgesOfTextsTest {
    private static final Check CHECK = new Check();
    private static final String TWO = "crossing 0 0;crossing 0 0;";
    /** A line of each kind, its tokens apart by a blank, and what must be told ahead of it. */
    private static final String[][] LINES = {
        {"", "crossing 9 1 ;"},
        {TWO, "road 0 1 ;"},
        {TWO, "person 1 0 99 ;"},
        {TWO + "road 1 0;", "arm 1 0 ;"},
        {"", "heeds 9999 ;"},
        {"", "turns ( arm ) ;"},
    };

    public static void main(String[] args) {
        signs();
        words();
        numbers();
        ends();
        wrongTokens();
        ranges();
        full();
        told();
        twice();
        nots();
        within();
        parts();
        leastOfOne();
        firstAlong();
        arithmetic();
        tests();
        values();
        newObject();
        feed();
        shire();
        shireWithFault();
        place();
        CHECK.end("EdgesOfTextsTest");
    }

    private static void fault(String text, int kind, int place) {
        TurnPosts posts = new TurnPosts();
        CHECK.due("shire of " + text, Texts.read(posts, text), kind);
        CHECK.due("fault() of " + text, posts.fault(), place);
        CHECK.due("count(12) of " + text, posts.count(12), kind == 0 ? 0 : 1);
    }

    private static void fine(String text) {
        fault(text, 0, -1);
    }

    // ---- TOKENS: words (a .. z, the longest row), NUMBERS (1 to 4 digits), signs; blanks (32, 10)

    /** Every byte alone, and every byte between two tokens. */
    private static void signs() {
        for (int sign = 0; sign < 256; sign++) {
            boolean blank = sign == 32 || sign == 10;
            String text = String.valueOf((char) sign);
            fault(text, blank ? 0 : 1, blank ? -1 : 0);
            String between = "crossing" + text + "0 0;";
            if (blank || sign == '0') {
                fine(between);
            } else if (sign >= '1' && sign <= '9') {
                fault(between, 2, 8);
            } else {
                fault(between, 1, sign >= 'a' && sign <= 'z' ? 0 : 8);
            }
        }
        fine("\n\n crossing \n 0\n0 \n;\n ");
        fine("crossing0 0;heeds(1)+(2)*(3)/(4)-(5)<(6);turns(7)=(8);");
    }

    private static void words() {
        fault("heeds a;", 3, 6);
        fault("heeds z;", 3, 6);
        fault("heeds `;", 1, 6);
        fault("heeds {;", 1, 6);
        fault("heeds A;", 1, 6);
        fault("heeds Z;", 1, 6);
        fault("heedsz 1;", 1, 0);
        fault("heed s 1;", 1, 0);
        fault("heeds armz;", 3, 6);
        fault("heeds arm z;", 1, 10);
        fault("heeds 1or 2 orarm;", 1, 12);
        fine("heeds 1or 2or arm;");
        fault("heeds notarm;", 3, 6);
        fault("heeds notz;", 3, 6);
    }

    private static void numbers() {
        fine("heeds 0;turns 9999;");
        fine("heeds 0000;");
        fault("heeds 10000;", 2, 6);
        fault("heeds 00000;", 2, 6);
        fault("heeds 1+99999;", 2, 8);
        fault("heeds 4294967296;", 2, 6);
        fine("crossing 0000 0001;");
        fault("crossing 00000 0;", 2, 9);
        fault("crossing 0 00001;", 2, 11);
        fault("crossing 4294967296 0;", 2, 9);
        fault(TWO + "road 00000 1;", 2, 31);
        fault(TWO + "road 0 00001;", 2, 33);
        fault(TWO + "person 00000 0 0;", 2, 33);
        fault(TWO + "person 0 4294967296 0;", 2, 35);
        fault(TWO + "person 0 0 00000;", 2, 37);
        fault(TWO + "road 0 1;arm 00000 0;", 2, 39);
        fault(TWO + "road 0 1;arm 0 00000;", 2, 41);
        fine(TWO + "road 0000 0001;person 0001 0000 0099;arm 0000 0000;");
        fault("heeds 12345678901234567890123456789012345678901234567890;", 2, 6);
    }

    // ---- FAULT 1: a TOKEN that can't stand there, or is none (the text's length where it ends too soon)

    private static void ends() {
        for (String[] line : LINES) {
            String text = line[0];
            for (String token : line[1].split(" ")) {
                if (!text.equals(line[0])) {
                    fault(text, 1, text.length());
                    fault(text + " \n", 1, text.length() + 2);
                }
                text = text + (text.equals(line[0]) ? "" : " ") + token;
            }
            fine(text);
        }
    }

    /** Each of some tokens, behind a text that is fine so far, can't stand there. */
    private static void wrong(String ahead, String... rows) {
        for (String row : rows) {
            for (String token : row.split(" ")) {
                fault(ahead + token, 1, ahead.length());
            }
        }
    }

    private static void wrongTokens() {
        String signs = "( ) + - * / < = $ A";
        String noWords = "foo 7 12345";
        wrong("", "; arms Crossing not or and with", signs, noWords);
        wrong("crossing 0 0;", ";", signs, noWords);
        for (String ahead : new String[] {"crossing ", "crossing 0 ", TWO + "road ", TWO + "road 0 ", TWO + "person ", TWO + "person 0 ",
            TWO + "person 0 0 ", TWO + "road 0 1;arm ", TWO + "road 0 1;arm 0 "}) {
            wrong(ahead, "; foo arm crossing", signs);
        }
        for (String ahead : new String[] {"crossing 0 0 ", TWO + "road 0 1 ", TWO + "person 0 0 0 ", TWO + "road 0 1;arm 0 0 "}) {
            wrong(ahead, "crossing road", signs, noWords);
        }
        for (String ahead : new String[] {"", "(", "((((("}) {
            wrong("heeds " + ahead, "; ) + - * / < = $ A");
            wrong("heeds " + ahead + "7 ", ahead.isEmpty() ? ")" : ";", "( $ A crossing not with", noWords);
            wrong("heeds " + ahead + "arm ", ahead.isEmpty() ? ")" : ";", "( $ A crossing not with", noWords);
        }
        fault("heeds 1 and;", 1, 11);
        fault("heeds 1 or;", 1, 10);
        fault("heeds 1 <;", 1, 9);
        fault("heeds 1 =;", 1, 9);
        fault("heeds 1 *;", 1, 9);
        fault("heeds 1 /;", 1, 9);
        fault("heeds 1 -;", 1, 9);
        fault("heeds not;", 1, 9);
        fault("heeds 1 not 1;", 1, 8);
        fault("heeds 1 < 2 = 3;", 1, 12);
        fault("heeds 1 = 2 < 3;", 1, 12);
        fine("heeds 1 < 2 and 2 = 3 or 3 < 4;");
    }

    // ---- FAULT 2: too much

    private static void ranges() {
        for (int toll = 0; toll <= 9; toll++) {
            fine("crossing " + toll + " 0;crossing 0 1;");
        }
        fault("crossing 10 0;", 2, 9);
        fault("crossing 9999 0;", 2, 9);
        fault("crossing 0 2;", 2, 11);
        fault("crossing 0 9999;", 2, 11);
        fine(TWO + "person 0 0 0;person 1 1 99;");
        fault(TWO + "person 0 0 100;", 2, 37);
        fault(TWO + "person 0 0 9999;", 2, 37);
    }

    /** As many as there may be, and one more: at the first TOKEN, whatever comes behind it. */
    private static void full() {
        String nine = "crossing 0 0;".repeat(9);
        fine(nine);
        fine(nine + "road 8 0;person 8 7 0;arm 8 0;");
        for (String rest : new String[] {"", " 0 0;", " 10 0;", " x", ";"}) {
            fault(nine + "crossing" + rest, 2, 117);
        }
        String eight = "crossing 0 0;" + "person 0 0 1;".repeat(8);
        fine(eight);
        for (String rest : new String[] {"", " 0 0 0;", " 1 0 0;", " x", ";"}) {
            fault(eight + "person" + rest, 2, 117);
        }
        fine(eight + "crossing 0 0;road 0 1;");
        String five = TWO + "road 0 1;".repeat(5);
        fine(five + "road 1 0;".repeat(5));
        for (String rest : new String[] {"", " 1;", " 0;", " 7;", " x"}) {
            fault(five + "road 0" + rest, 4, 76);
        }
        fault(five + "road 1 0;".repeat(5) + "road 1 0;", 4, 121);
        fine(Texts.FULL);
        fault(Texts.FULL + "crossing 0 0;", 2, 634);
        fault(Texts.FULL + "person 0 0 0;", 2, 634);
        fault(Texts.FULL + "road 8 0;", 4, 639);
    }

    // ---- FAULT 3: what isn't told ahead, however great; 4: a ROAD to where it begins

    private static void told() {
        fault("road 0 0;", 3, 5);
        fault("person 0 0 0;", 3, 7);
        fault("arm 0 0;", 3, 4);
        fault("crossing 0 0;road 0 1;crossing 0 0;", 3, 20);
        fault("crossing 0 0;road 1 0;crossing 0 0;", 3, 18);
        fault("crossing 0 0;person 0 1 0;crossing 0 0;", 3, 22);
        fault("crossing 0 0;person 1 0 0;crossing 0 0;", 3, 20);
        fault(TWO + "arm 0 0;road 0 1;", 3, 32);
        fault(TWO + "road 0 1;arm 0 1;road 0 1;", 3, 41);
        fault(TWO + "road 1 0;arm 0 0;", 3, 41);
        for (String great : new String[] {"2", "9", "10", "99", "100", "9999"}) {
            fault(TWO + "road " + great + " 0;", 3, 31);
            fault(TWO + "road 0 " + great + ";", 3, 33);
            fault(TWO + "person " + great + " 0 0;", 3, 33);
            fault(TWO + "person 0 " + great + " 0;", 3, 35);
            fault(TWO + "road 0 1;arm " + great + " 0;", 3, 39);
            fault(TWO + "road 0 1;arm 0 " + great + ";", 3, 41);
        }
        fine(TWO + "road 0 1;".repeat(5) + "arm 0 4;");
        fault(TWO + "road 0 1;".repeat(5) + "arm 0 5;", 3, 77);
        fault(TWO + "road 0 0;", 4, 33);
        fault(TWO + "road 1 1;", 4, 33);
        fault(TWO + "road 1 0001;", 4, 33);
    }

    // ---- FAULT 5: a second 'heeds', 'turns', 'arm' of one CROSSING

    private static void twice() {
        for (String rule : new String[] {"heeds", "turns"}) {
            for (String rest : new String[] {"", " 1;", " x;", ";"}) {
                fault(rule + " 0;" + rule + rest, 5, 8);
            }
        }
        fine("heeds 0;turns 0;");
        fault("heeds 0;turns 0;heeds 0;", 5, 16);
        fault("heeds 0;turns 0;turns 0;", 5, 16);
        String arms = TWO + "road 0 1;road 1 0;arm 0 0;arm 1 0;";
        fine(arms);
        for (String rest : new String[] {"", " 0;", " 1;", " x", ";"}) {
            fault(arms + "arm 0" + rest, 5, 64);
            fault(arms + "arm 1" + rest, 5, 64);
        }
        fault(arms + "arm 2 0;", 3, 64);
    }

    // ---- the seventh 'not' side by side; an EXPR within 6 others

    private static void nots() {
        fine("heeds not not not not not not 1;");
        fault("heeds not not not not not not not", 2, 30);
        fault("heeds not not not not not not not 1;", 2, 30);
        fault("heeds not not not not not not not x;", 2, 30);
        fine("heeds not not not not not not 1 and not not not not not not 1 or not not not not not not 1;");
        fault("heeds 1 and not not not not not not not 1;", 2, 36);
        fault("heeds 1 or not not not not not not not 1;", 2, 35);
        fault("heeds (not not not not not not not 1);", 2, 31);
        fine("heeds not not not not not not (not not not not not not 1);");
        fault("heeds not not not not not not;", 1, 29);
        fault("heeds not not not not not not", 1, 29);
    }

    private static void within() {
        fine("heeds (((((1)))));");
        fine("heeds (((((not 1)))));");
        fine("heeds (((((arm < 2 and with or day)))));");
        for (String first : new String[] {"1", "12345", "arm", "not 1", "foo", "or", "and", "crossing", "(", "((((((((((((((("}) {
            fault("heeds ((((((" + first, 2, 12);
        }
        for (String first : new String[] {"", ")", "+", "-", "*", "/", "<", "=", ";", "$", "A"}) {
            fault("heeds ((((((" + first, 1, 12);
        }
        fine("heeds (((((1)))))+(((((1)))));");
        fine("heeds (((((1)+(1))+(1))+(1))+(1));");
        fault("heeds (((((1)))))+((((((1))))));", 2, 24);
        fault("heeds 1 + (2 * (3 - (4 / (5 < (6 = (7", 2, 36);
        fine("turns " + "(".repeat(5) + "1" + ")".repeat(5) + ";");
        fault("turns " + "(".repeat(600), 2, 12);
        fault("heeds " + "not (".repeat(6) + "1", 2, 36);
    }

    /** A word where a PART must stand that is no VALUE: at each place where one must. */
    private static void parts() {
        for (String ahead : new String[] {"", "(", "1 +", "1 -", "1 *", "1 /", "1 <", "1 =", "1 and", "1 or", "not", "not not not not not not"}) {
            String text = "heeds " + ahead + " ";
            for (String word : new String[] {"foo", "crossing", "heeds", "or", "and", "arms", "roa", "z"}) {
                fault(text + word, 3, text.length());
            }
            for (String value : new String[] {"arm", "roads", "purse", "with", "day", "7"}) {
                fine(text + value + (ahead.equals("(") ? ")" : "") + ";");
            }
        }
        for (String ahead : new String[] {"1 +", "1 -", "1 *", "1 /", "1 <", "1 ="}) {
            String text = "heeds " + ahead + " ";
            fault(text + "not 1;", 3, text.length());
        }
    }

    private static void leastOfOne() {
        // Can't stand there, and too long: 1. Too long, and not told: 2. No VALUE, and within 6 others: 2.
        fault("crossing 0 0 12345;", 1, 13);
        fault("12345", 1, 0);
        fault(TWO + "road 12345 0;", 2, 31);
        fault(TWO + "road 0 12345;", 2, 33);
        fault(TWO + "road 0 1;arm 0 12345;", 2, 41);
        fault("heeds ((((((foo", 2, 12);
        // Not told ahead, though 5 roads go from the last one; a second 'arm', whatever is told of its road.
        fault(TWO + "road 0 1;".repeat(5) + "road 2 0;", 3, 76);
    }

    private static void firstAlong() {
        fault("crossing 10 2;road 0 0;", 2, 9);
        fault("crossing 0 2;road 0 0;", 2, 11);
        fault("crossing 0 0;road 0 0;crossing x", 4, 20);
        fault("heeds foo;$", 3, 6);
        fault("heeds 1;heeds foo;", 5, 8);
        fault("$crossing 10 2;", 1, 0);
    }

    // ---- From the left; ints that wrap, / cut down to 0, by 0 gives 0; tests are 1 or 0 (what isn't 0 holds)

    /** A sum of numbers of at most 4 digits. */
    private static String number(long value) {
        long size = Math.abs(value);
        String text = "((" + size / 1_000_000_000 + "*1000+" + size / 1_000_000 % 1000 + ")*1000+" + size / 1000 % 1000 + ")*1000+" + size % 1000;
        return value < 0 ? "(0-(" + text + "))" : "(" + text + ")";
    }

    /** Whether one goes by a rule. */
    private static boolean heeds(String rule) {
        return Texts.of(TWO + "road 0 1;person 0 1 0;heeds " + rule + ";").then(0, 1, 0) == 1;
    }

    private static void is(String expr, int value) {
        CHECK.due(expr + " is " + value, heeds("(" + expr + ") = " + number(value)), true);
        CHECK.due(expr + " is not " + (value + 1), heeds("(" + expr + ") = " + number(value + 1)), false);
    }

    private static void arithmetic() {
        String most = number(Integer.MAX_VALUE);
        String least = number(Integer.MIN_VALUE);
        is("0", 0);
        is("9999", 9999);
        is("0007", 7);
        is(most, Integer.MAX_VALUE);
        is(least, Integer.MIN_VALUE);
        is(most + "+1", Integer.MIN_VALUE);
        is(least + "-1", Integer.MAX_VALUE);
        is(most + "*2", -2);
        is(least + "*2", 0);
        is("0-" + least, Integer.MIN_VALUE);
        is(least + "/(0-1)", Integer.MIN_VALUE);
        is("9999*9999*9999", 9999 * 9999 * 9999);
        is("7/2", 3);
        is("(0-7)/2", -3);
        is("7/(0-2)", -3);
        is("(0-7)/(0-2)", 3);
        is("1/2", 0);
        is("(0-1)/2", 0);
        is("5/0", 0);
        is("0/0", 0);
        is("(0-5)/0", 0);
        is(least + "/0", 0);
        is("7-3-2", 2);
        is("100/5/2", 10);
        is("7/2*2", 6);
        is("2*7/2", 7);
        is("1-2+3", 2);
        is("2+3*4-6/2", 11);
        is("(2+3)*(4-6)/2", -5);
    }

    private static void tests() {
        is("1<2", 1);
        is("2<2", 0);
        is("3<2", 0);
        is("(0-1)<0", 1);
        is(number(Integer.MIN_VALUE) + "<" + number(Integer.MAX_VALUE), 1);
        is("2=2", 1);
        is("2=3", 0);
        is("1+1=2", 1);
        is("1<1+1", 1);
        is("not 0", 1);
        is("not 1", 0);
        is("not 5", 0);
        is("not 0-1", 0);
        is("not not 5", 1);
        is("not not 0", 0);
        is("not not not not not not 5", 1);
        is("not 0<2", 0);
        is("not 0 and 0", 0);
        is("not 1 or 1", 1);
        String[] sides = {"0", "1", "5", "(0-1)", number(Integer.MIN_VALUE)};
        for (String left : sides) {
            for (String right : sides) {
                boolean first = !left.equals("0");
                boolean second = !right.equals("0");
                is(left + " and " + right, first && second ? 1 : 0);
                is(left + " or " + right, first || second ? 1 : 0);
            }
        }
        is("1 and 1 and 0", 0);
        is("0 and 1 and 1", 0);
        is("0 or 0 or 7", 1);
        is("1 or 1 and 0", 1);
        is("0 and 1 or 1", 1);
        is("(1 or 1) and 0", 0);
        CHECK.due("HEEDS 1", heeds("1"), true);
        CHECK.due("HEEDS 2", heeds("2"), true);
        CHECK.due("HEEDS the most", heeds(number(Integer.MAX_VALUE)), true);
        CHECK.due("HEEDS 0", heeds("0"), false);
        CHECK.due("HEEDS -1", heeds("0-1"), false);
        CHECK.due("HEEDS the least", heeds(number(Integer.MIN_VALUE)), false);
        // As many as can wait for one another: five signs in each of six expressions.
        String deep = "1 or 1 and 1 = 1 + 1 * ";
        is("0 or 1 and 3 = 1 + 1 * (0 or 1 and 3 = 1 + 1 * (0 or 1 and 3 = 1 + 2 * (1 or 0)))", 0);
        CHECK.due("six deep", heeds((deep + "(").repeat(5) + deep + "1" + ")".repeat(5)), true);
        CHECK.due("six deep, the innermost counts", heeds("0 = 0 + 1 * (".repeat(5) + "1" + ")".repeat(5)), false);
        CHECK.due("six deep, the innermost counts, too", heeds("0 = 0 + 1 * (".repeat(5) + "0" + ")".repeat(5)), true);
        CHECK.due("as long as a text", Texts.of(TWO + "road 0 1;person 0 1 0;heeds 1" + "*1".repeat(319) + ";").then(0, 1, 0), 1);
        CHECK.due("as long as a text: 0 at its end", Texts.of(TWO + "road 0 1;person 0 1 0;heeds 1" + "*1".repeat(318) + "*0;").then(0, 1, 0), 0);
    }

    /** Whether person 0 of a crossing with so many roads goes by a rule. */
    private static boolean goes(int roads, String people, String rule) {
        return Texts.of(TWO + "road 0 1;".repeat(roads) + people + "heeds " + rule + ";").then(0, 1, 2) == 1;
    }

    private static void values() {
        for (int arm = 0; arm < 5; arm++) {
            CHECK.due("arm " + arm, goes(5, "arm 0 " + arm + ";person 0 1 0;", "arm = " + arm), true);
            CHECK.due("roads " + (arm + 1), goes(arm + 1, "person 0 1 0;", "roads = " + (arm + 1)), true);
        }
        CHECK.due("purse 0", goes(1, "person 0 1 0;", "purse = 0"), true);
        CHECK.due("purse 99", goes(1, "person 0 1 99;", "purse = 99"), true);
        CHECK.due("with none", goes(1, "person 0 1 0;person 1 1 0;", "with = 0"), true);
        CHECK.due("with 7 others, at home all", goes(1, "person 0 1 0;" + "person 0 0 0;".repeat(7), "with = 7"), true);
        CHECK.due("with 7 others, none at home", goes(1, "person 0 1 0;".repeat(8), "with = 7"), true);
        TurnPosts shut = Texts.of(TWO + "road 0 1;road 0 1;road 0 1;person 0 1 0;heeds roads = 3;");
        shut.shut(0, 1, true);
        shut.shut(0, 2, true);
        CHECK.due("roads that are shut count", shut.then(0, 1, 2), 1);
        TurnPosts turned = Texts.of(TWO + "road 0 1;road 0 1;person 0 1 0;heeds arm = 1;");
        CHECK.due("arm as it is", turned.then(0, 1, 2), 0);
        turned.turn(0, 1);
        CHECK.due("arm as it is turned", turned.then(0, 1, 2), 1);
        TurnPosts day = Texts.of(TWO + "road 0 1;person 0 1 0;heeds day = 20;");
        CHECK.due("day 19 is not 20", day.then(0, 20, 2), 0);
        CHECK.due("day 20", day.then(0, 21, 2), 1);
        day.days(20);
        CHECK.due("day 20 now", day.then(0, 1, 2), 1);
    }

    // ---- promise 1: no CROSSINGS, nobody

    private static void newObject() {
        TurnPosts posts = new TurnPosts();
        CHECK.due("undo()", posts.undo(), -1);
        CHECK.due("restore()", posts.restore(), false);
        CHECK.due("fault()", posts.fault(), -1);
        CHECK.due("later(0, 0)", posts.later(0, 0), 0);
        CHECK.due("later(100, 1)", posts.later(100, 1), -1);
        CHECK.due("later(100, 2)", posts.later(100, 2), -1);
        CHECK.due("later(60, 3)", posts.later(60, 3), 0);
        CHECK.due("round()", posts.round(), 1);
        CHECK.due("first()", posts.first(), -1);
        CHECK.due("lodged(0)", posts.lodged(0), 0);
        CHECK.due("lodged(1)", posts.lodged(1), 0);
        CHECK.due("turned(0)", posts.turned(0), 0);
        CHECK.due("turned(1)", posts.turned(1), -1);
        CHECK.due("turned(2)", posts.turned(2), 1);
        CHECK.due("look(0)", posts.look(0), -1);
        CHECK.due("look(1)", posts.look(1), 0);
        for (int what = 0; what < 3; what++) {
            CHECK.due("years(1, 100, " + what + ")", posts.years(1, 100, what), 0);
        }
        CHECK.due("gather(0)", posts.gather(0), -1);
        CHECK.due("gather(1)", posts.gather(1), 0);
        CHECK.due("gather(2)", posts.gather(2), 0);
        CHECK.due("tour(0)", posts.tour(0), -1);
        CHECK.due("circuit()", posts.circuit(), true);
        CHECK.due("days(1)", posts.days(1), 1);
        CHECK.due("one act", posts.count(9), 1);
        posts.image();
        CHECK.due("days(20)", posts.days(20), 21);
        CHECK.due("restore() of an image", posts.restore(), true);
        CHECK.due("the day", posts.count(2), 1);
        CHECK.due("undo() of days", posts.undo(), 0);
        CHECK.due("day 0", posts.count(2), 0);
        posts.forget();
        for (int what = 0; what <= 14; what++) {
            CHECK.due("count(" + what + ")", posts.count(what), 0);
        }
    }

    // ---- promise 2: twenty bytes, of each number the highest first; not more than 700

    private static void feed() {
        for (int at = 0; at < 20; at++) {
            for (int sign : new int[] {0, '$', 127, 128, 255}) {
                int[] numbers = new int[5];
                java.util.Arrays.fill(numbers, 0x20202020);
                int shift = 24 - 8 * (at % 4);
                numbers[at / 4] = numbers[at / 4] & ~(255 << shift) | sign << shift;
                TurnPosts posts = new TurnPosts();
                CHECK.due("feed", posts.feed(numbers[0], numbers[1], numbers[2], numbers[3], numbers[4]), 20);
                CHECK.due("shire of byte " + sign, posts.shire(20), 1);
                CHECK.due("byte " + sign + " at " + at, posts.fault(), at);
            }
        }
        String full = "turns 1" + "*1".repeat(346) + ";";
        CHECK.due("a full text", full.length(), 700);
        TurnPosts posts = new TurnPosts();
        Texts.feed(posts, full);
        CHECK.refused("one feed more, but no STATUS", posts, -1, () -> posts.feed(0, 0, 0, 0, 0));
        CHECK.due("one feed more once more", posts.feed(-1, -1, -1, -1, -1), -1);
        CHECK.due("shire(700)", posts.shire(700), 0);
        CHECK.due("the tape is empty", posts.count(11), 0);
        CHECK.due("a feed anew", posts.feed(0x3b202020, 0x20202020, 0x20202020, 0x20202020, 0x20202020), 20);
        CHECK.due("from its beginning", posts.shire(20), 1);
        CHECK.due("at 0", posts.fault(), 0);
        TurnPosts almost = new TurnPosts();
        for (int i = 0; i < 34; i++) {
            almost.feed(0, 0, 0, 0, 0);
        }
        CHECK.due("the 35th feed", almost.feed(0, 0, 0, 0, 0), 700);
        CHECK.due("the 36th feed", almost.feed(0, 0, 0, 0, 0), -1);
    }

    // ---- promise 3

    private static void shire() {
        for (int n : new int[] {-1, Integer.MIN_VALUE, 21, 700, 701, Integer.MAX_VALUE}) {
            TurnPosts posts = Texts.of(Texts.SMALL);
            posts.feed(0, 0, 0, 0, 0);
            CHECK.illegalAndStays("shire(" + n + ") of 20 bytes", posts, () -> posts.shire(n));
            CHECK.due("the tape stays", posts.count(11), 20);
        }
        TurnPosts none = Texts.of(Texts.SMALL);
        CHECK.illegalAndStays("shire(1) of none", none, () -> none.shire(1));
        none.feed(0, 0, 0, 0, 0);
        CHECK.due("shire(0) of 20 bytes", none.shire(0), 0);
        CHECK.due("the tape is empty", none.count(11), 0);
        CHECK.due("no crossings", none.count(0), 0);
        CHECK.due("nobody", none.count(1), 0);
        TurnPosts posts = Texts.of(Texts.SMALL);
        posts.days(20);
        posts.shut(0, 0, true);
        posts.see(0, 0, 0);
        posts.image();
        posts.days(0);
        posts.see(0, 0, 21);
        Texts.read(posts, "$");
        CHECK.due("anew", Texts.read(posts, Texts.SMALL), 0);
        CHECK.same("as a new one", Texts.state(posts), Texts.state(Texts.of(Texts.SMALL)));
        CHECK.same("but STATUS", Texts.status(posts), " status 1 1 1");
        CHECK.due("no ACTS", posts.undo(), -1);
        CHECK.due("no image", posts.restore(), false);
        CHECK.due("nothing is SEEN", posts.count(10), 0);
    }

    private static void shireWithFault() {
        TurnPosts posts = Texts.of(Texts.SMALL);
        posts.days(1);
        posts.shut(0, 0, true);
        posts.see(0, 0, 0);
        posts.image();
        posts.fill(0, 50);
        String all = Texts.state(posts);
        CHECK.due("a fault behind much that is fine", Texts.read(posts, Texts.FULL + "heeds 1;turns 1;x"), 1);
        CHECK.due("its place", posts.fault(), 650);
        CHECK.same("all stays", Texts.state(posts).replace("fault 650", "fault -1"), all);
        CHECK.due("the tape is empty", posts.count(11), 0);
        CHECK.due("STATUS 0", posts.count(12), 1);
        CHECK.due("ACTS stay", posts.undo(), 2);
        CHECK.due("the purse as it was", posts.person(0, 2), 5);
        CHECK.due("the image stays", posts.restore(), true);
        CHECK.due("rules stay", posts.then(0, 1, 2), 1);
        for (int i = 2; i <= 5; i++) {
            Texts.read(posts, "$");
            CHECK.due("STATUS 0 of " + i, posts.count(12), i);
        }
    }

    // ---- promise 4: the place of the latest one's FAULT; NONE without

    private static void place() {
        TurnPosts posts = new TurnPosts();
        CHECK.due("none yet", posts.fault(), -1);
        Texts.read(posts, "$");
        CHECK.due("the first byte", posts.fault(), 0);
        CHECK.illegal("no such tape", () -> posts.shire(1));
        CHECK.due("as it was", posts.fault(), 0);
        Texts.read(posts, "crossing 10 0;");
        CHECK.due("the latest", posts.fault(), 9);
        Texts.read(posts, "");
        CHECK.due("none without", posts.fault(), -1);
        String full = "turns 1" + "*1".repeat(346);
        Texts.feed(posts, full + "+");
        CHECK.due("a full text that ends too soon", posts.shire(700), 1);
        CHECK.due("its length", posts.fault(), 700);
        Texts.feed(posts, full + "$");
        CHECK.due("its last byte", posts.shire(700), 1);
        CHECK.due("the last place", posts.fault(), 699);
    }
}
