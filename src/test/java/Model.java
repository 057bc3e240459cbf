import java.util.ArrayDeque;
import java.util.ArrayList;
import java.util.Arrays;
import java.util.Deque;
import java.util.HashMap;
import java.util.HashSet;
import java.util.List;
import java.util.Map;
import java.util.NoSuchElementException;
import java.util.Set;
import java.util.regex.Matcher;
import java.util.regex.Pattern;

/** The document once more, by other means: slow, by whole lists of days and by trying everything. */
final class Model {
    /** An expression. */
    interface Expr {
        int of(Map<String, Integer> values);
    }

    /** A fault ends the reading. */
    @SuppressWarnings("serial")
    static final class Fault extends RuntimeException {
        final int kind;
        final int place;

        Fault(int kind, int place) {
            this.kind = kind;
            this.place = place;
        }
    }

    record Token(String text, int place) {
        boolean isNumber() {
            return text.matches("[0-9]+");
        }

        boolean isWord() {
            return text.matches("[a-z]+");
        }
    }

    /** All of a moment; roads and tolls never change. */
    static final class State {
        int day;
        List<Integer> where = new ArrayList<>();
        List<Integer> purse = new ArrayList<>();
        List<Integer> arm = new ArrayList<>();
        Set<Integer> shut = new HashSet<>();
        List<Integer> steps = new ArrayList<>();
        Map<Integer, Integer> gone = new HashMap<>();

        State copy() {
            State to = new State();
            to.day = day;
            to.where.addAll(where);
            to.purse.addAll(purse);
            to.arm.addAll(arm);
            to.shut.addAll(shut);
            to.steps.addAll(steps);
            to.gone.putAll(gone);
            return to;
        }
    }

    static final class Land {
        List<int[]> crossings = new ArrayList<>();
        List<List<Integer>> roads = new ArrayList<>();
        List<Integer> homes = new ArrayList<>();
        Expr heeds;
        Expr turns;
        State begin = new State();
        Set<Integer> arms = new HashSet<>();
    }

    // ---- reading

    static final class Parser {
        private static final List<String> VALUES = List.of("arm", "roads", "purse", "with", "day");
        private final List<Token> tokens = new ArrayList<>();
        private final int length;
        private int at;
        private final Land land = new Land();

        Parser(String text) {
            length = text.length();
            Matcher matcher = Pattern.compile("[ \\n]+|[a-z]+|[0-9]+|.", Pattern.DOTALL).matcher(text);
            while (matcher.find()) {
                if (!matcher.group().isBlank() || !matcher.group().matches("[ \\n]+")) {
                    tokens.add(new Token(matcher.group(), matcher.start()));
                }
            }
        }

        Token see() {
            return at < tokens.size() ? tokens.get(at) : new Token("", length);
        }

        Token take() {
            Token token = see();
            at++;
            return token;
        }

        RuntimeException fault(int kind) {
            return new Fault(kind, see().place);
        }

        void need(boolean holds, int kind) {
            if (!holds) {
                throw fault(kind);
            }
        }

        int number() {
            need(see().isNumber(), 1);
            need(see().text.length() <= 4, 2);
            return Integer.parseInt(see().text);
        }

        int numberTo(int most) {
            need(number() <= most, 2);
            return Integer.parseInt(take().text);
        }

        int told(int many) {
            need(number() < many, 3);
            return number();
        }

        Land read() {
            while (at < tokens.size()) {
                line();
                need(see().text.equals(";"), 1);
                at++;
            }
            return land;
        }

        void line() {
            int crossings = land.crossings.size();
            switch (see().text) {
                case "crossing" -> {
                    need(crossings < 9, 2);
                    at++;
                    land.crossings.add(new int[] {numberTo(9), numberTo(1)});
                    land.roads.add(new ArrayList<>());
                    land.begin.arm.add(0);
                }
                case "road" -> {
                    at++;
                    int from = told(crossings);
                    need(land.roads.get(from).size() < 5, 4);
                    at++;
                    int to = told(crossings);
                    need(to != from, 4);
                    at++;
                    land.roads.get(from).add(to);
                }
                case "person" -> {
                    need(land.homes.size() < 8, 2);
                    at++;
                    land.begin.where.add(told(crossings));
                    at++;
                    land.homes.add(told(crossings));
                    at++;
                    land.begin.purse.add(numberTo(99));
                    land.begin.steps.add(0);
                }
                case "arm" -> {
                    at++;
                    int crossing = told(crossings);
                    need(land.arms.add(crossing), 5);
                    at++;
                    land.begin.arm.set(crossing, told(land.roads.get(crossing).size()));
                    at++;
                }
                case "heeds" -> {
                    need(land.heeds == null, 5);
                    at++;
                    land.heeds = expr(0);
                }
                case "turns" -> {
                    need(land.turns == null, 5);
                    at++;
                    land.turns = expr(0);
                }
                default -> throw fault(1);
            }
        }

        Expr expr(int others) {
            if (others >= 6) {
                need(!see().isNumber() && !see().isWord() && !see().text.equals("("), 2);
            }
            return level(others, 0);
        }

        static int join(String sign, int a, int b) {
            return switch (sign) {
                case "or" -> (a | b) != 0 ? 1 : 0;
                case "and" -> a == 0 || b == 0 ? 0 : 1;
                case "<" -> a < b ? 1 : 0;
                case "=" -> a == b ? 1 : 0;
                case "+" -> a + b;
                case "-" -> a - b;
                case "*" -> a * b;
                default -> b == 0 ? 0 : a / b;
            };
        }

        /** Levels: 0 or, 1 and, 2 not and tests, 3 sums, 4 products, 5 parts. */
        Expr level(int others, int level) {
            if (level == 5) {
                return part(others);
            }
            if (level == 2 && see().text.equals("not")) {
                return not(others, 1);
            }
            List<String> signs = List.of(List.of("or"), List.of("and"), List.of("<", "="), List.of("+", "-"), List.of("*", "/")).get(level);
            Expr left = level(others, level + 1);
            int joined = 0;
            while (signs.contains(see().text) && (level != 2 || joined == 0)) {
                String sign = take().text;
                Expr first = left;
                Expr second = level(others, level + 1);
                left = values -> join(sign, first.of(values), second.of(values));
                joined++;
            }
            return left;
        }

        Expr not(int others, int many) {
            need(many < 7, 2);
            at++;
            Expr inner = see().text.equals("not") ? not(others, many + 1) : level(others, 2);
            return values -> inner.of(values) == 0 ? 1 : 0;
        }

        Expr part(int others) {
            if (see().isWord()) {
                need(VALUES.contains(see().text), 3);
                String name = take().text;
                return values -> values.get(name);
            }
            if (see().text.equals("(")) {
                at++;
                Expr inner = expr(others + 1);
                need(see().text.equals(")"), 1);
                at++;
                return inner;
            }
            int number = number();
            at++;
            return values -> number;
        }
    }

    // ---- the state of an object

    private final StringBuilder tape = new StringBuilder();
    private Land land = new Land();
    private State now = new State();
    private Deque<State> acts = new ArrayDeque<>();
    private List<int[]> seen = new ArrayList<>();
    private State imageNow;
    private Deque<State> imageActs;
    private List<int[]> imageSeen;
    private int place = -1;
    private final int[] refused = new int[3];

    private static RuntimeException noSuch() {
        return new NoSuchElementException();
    }

    private static void range(int x, int from, int to) {
        if (x < from || x > to) {
            throw new IllegalArgumentException();
        }
    }

    private static void what(int x, int most) {
        if (x < 0 || x > most) {
            throw noSuch();
        }
    }

    private int crossings() {
        return land.crossings.size();
    }

    private int people() {
        return land.homes.size();
    }

    private void hasPerson(int person) {
        what(person, people() - 1);
    }

    private void hasCrossing(int crossing) {
        what(crossing, crossings() - 1);
    }

    private void hasRoad(int crossing, int road) {
        hasCrossing(crossing);
        what(road, land.roads.get(crossing).size() - 1);
    }

    // ---- days

    private State next(State from, boolean wind) {
        State state = from.copy();
        for (int person = 0; person < people(); person++) {
            int at = state.where.get(person);
            int roads = land.roads.get(at).size();
            if (at == land.homes.get(person) || roads == 0) {
                continue;
            }
            int with = 0;
            for (int other = 0; other < people(); other++) {
                with += other != person && state.where.get(other) == at ? 1 : 0;
            }
            Map<String, Integer> values = Map.of("arm", state.arm.get(at), "roads", roads, "purse", state.purse.get(person),
                    "with", with, "day", state.day);
            if (land.heeds != null && land.heeds.of(values) <= 0) {
                continue;
            }
            int turn = land.turns == null ? 1 : land.turns.of(values);
            turn = turn < 0 ? 0 : turn > 9 ? 9 : turn;
            int road = state.arm.get(at);
            int to = land.roads.get(at).get(road);
            int toll = land.crossings.get(to)[0];
            if (!state.shut.contains(10 * at + road) && state.purse.get(person) >= toll) {
                state.where.set(person, to);
                state.purse.set(person, state.purse.get(person) - toll);
                state.steps.set(person, state.steps.get(person) + 1);
                state.gone.merge(10 * at + road, 1, Integer::sum);
            }
            for (int i = 0; i < turn && !wind; i++) {
                state.arm.set(at, state.arm.get(at) + 1 == roads ? 0 : state.arm.get(at) + 1);
            }
        }
        state.day++;
        return state;
    }

    /** The states behind 0, 1 .. days. */
    private List<State> ahead(State from, int days) {
        List<State> list = new ArrayList<>();
        State first = from.copy();
        first.steps.replaceAll(x -> 0);
        first.gone.clear();
        list.add(first);
        for (int day = 0; day < days; day++) {
            list.add(next(list.get(day), false));
        }
        return list;
    }

    private State behind(int days) {
        return ahead(now, days).get(days);
    }

    private boolean home(State state, int person) {
        return state.where.get(person).equals(land.homes.get(person));
    }

    private int homeBits(State state) {
        int bits = 0;
        for (int person = 0; person < people(); person++) {
            bits += home(state, person) ? 1 << person : 0;
        }
        return bits;
    }

    private int homeDay(State from, int person) {
        List<State> list = ahead(from, 60);
        for (int day = 0; day <= 60; day++) {
            if (home(list.get(day), person)) {
                return day;
            }
        }
        return 999;
    }

    private State byTurn(int crossing, int road) {
        State state = now.copy();
        state.arm.set(crossing, road);
        return state;
    }

    private boolean allSeen(State from) {
        List<State> list = ahead(from, 20);
        return seen.stream().allMatch(s -> list.get(s[2]).where.get(s[0]) == s[1]);
    }

    private List<Integer> couldBeTurned() {
        List<Integer> list = new ArrayList<>();
        for (int code : roadCodes()) {
            if (now.arm.get(code / 10) != code % 10 && allSeen(byTurn(code / 10, code % 10))) {
                list.add(code);
            }
        }
        return list;
    }

    private List<Integer> roadCodes() {
        List<Integer> list = new ArrayList<>();
        for (int crossing = 0; crossing < crossings(); crossing++) {
            for (int road = 0; road < land.roads.get(crossing).size(); road++) {
                list.add(10 * crossing + road);
            }
        }
        return list;
    }

    // ---- ways

    private List<int[]> openRoads() {
        List<int[]> list = new ArrayList<>();
        for (int code : roadCodes()) {
            if (!now.shut.contains(code)) {
                list.add(new int[] {code / 10, land.roads.get(code / 10).get(code % 10)});
            }
        }
        return list;
    }

    /** Least sum to each crossing, by going on until nothing is less; -1: none. */
    private int[] sums(int from, boolean tolls) {
        int[] sum = new int[crossings()];
        Arrays.fill(sum, 5000);
        sum[from] = 0;
        boolean less = true;
        while (less) {
            less = false;
            for (int[] road : openRoads()) {
                int by = sum[road[0]] + (tolls ? land.crossings.get(road[1])[0] : 1);
                if (by < sum[road[1]]) {
                    sum[road[1]] = by;
                    less = true;
                }
            }
        }
        for (int i = 0; i < sum.length; i++) {
            sum[i] = sum[i] >= 5000 ? -1 : sum[i];
        }
        return sum;
    }

    private int reached(int from) {
        int bits = 0;
        int[] far = sums(from, false);
        for (int i = 0; i < far.length; i++) {
            bits |= far[i] >= 0 ? 1 << i : 0;
        }
        return bits;
    }

    private int part(int crossing) {
        int bits = 0;
        for (int other = 0; other < crossings(); other++) {
            if ((reached(crossing) & 1 << other) != 0 && (reached(other) & 1 << crossing) != 0) {
                bits |= 1 << other;
            }
        }
        return bits;
    }

    private int parts() {
        Set<Integer> set = new HashSet<>();
        for (int crossing = 0; crossing < crossings(); crossing++) {
            set.add(part(crossing));
        }
        return set.size();
    }

    private int watched() {
        for (int many = 0; many <= 9; many++) {
            for (int set = 0; set < 512; set++) {
                int bits = set;
                if (Integer.bitCount(set) == many
                        && openRoads().stream().allMatch(r -> (bits >> r[0] & 1) == 1 || (bits >> r[1] & 1) == 1)) {
                    return set;
                }
            }
        }
        return -7;
    }

    private int longest(int from, int been) {
        int most = 0;
        for (int[] road : openRoads()) {
            if (road[0] == from && (been >> road[1] & 1) == 0) {
                most = Math.max(most, 1 + longest(road[1], been | 1 << road[1]));
            }
        }
        return most;
    }

    private int loop(int crossing) {
        int least = -1;
        for (int[] road : openRoads()) {
            if (road[0] == crossing) {
                int back = sums(road[1], false)[crossing];
                if (back >= 0 && (least < 0 || back + 1 < least)) {
                    least = back + 1;
                }
            }
        }
        return least;
    }

    private int balance(int crossing) {
        int sum = 0;
        for (int[] road : openRoads()) {
            sum += (road[1] == crossing ? 1 : 0) - (road[0] == crossing ? 1 : 0);
        }
        return sum;
    }

    private boolean circuit() {
        Set<Integer> parts = new HashSet<>();
        for (int[] road : openRoads()) {
            parts.add(part(road[0]));
            parts.add(part(road[1]));
        }
        for (int crossing = 0; crossing < crossings(); crossing++) {
            if (balance(crossing) != 0) {
                return false;
            }
        }
        return parts.size() <= 1;
    }

    private int[] bestRow;
    private int bestMany;
    private int bestCost;

    private void lodge(int person, int[] row, int many, int cost, int[][] costs) {
        if (person == people()) {
            if (bestRow == null || many > bestMany || many == bestMany && cost < bestCost) {
                bestRow = row.clone();
                bestMany = many;
                bestCost = cost;
            }
            return;
        }
        for (int bed = 0; bed < crossings(); bed++) {
            boolean free = land.crossings.get(bed)[1] == 1 && costs[person][bed] >= 0;
            for (int other = 0; other < person && free; other++) {
                free = row[other] != bed;
            }
            if (free) {
                row[person] = bed;
                lodge(person + 1, row, many + 1, cost + costs[person][bed], costs);
            }
        }
        row[person] = -1;
        lodge(person + 1, row, many, cost, costs);
    }

    private void lodge() {
        bestRow = null;
        int[][] costs = new int[people()][];
        for (int person = 0; person < people(); person++) {
            costs[person] = sums(now.where.get(person), true);
        }
        lodge(0, new int[people()], 0, 0, costs);
    }

    private void tour(List<Integer> row, int cost, int[][] costs) {
        int last = row.get(row.size() - 1);
        if (row.size() == crossings()) {
            if (costs[last][0] >= 0 && (bestRow == null || cost + costs[last][0] < bestCost)) {
                bestRow = row.stream().mapToInt(x -> x).toArray();
                bestCost = cost + costs[last][0];
            }
            return;
        }
        for (int stop = 0; stop < crossings(); stop++) {
            if (!row.contains(stop) && costs[last][stop] >= 0) {
                row.add(stop);
                tour(row, cost + costs[last][stop], costs);
                row.remove(row.size() - 1);
            }
        }
    }

    // ---- the calls

    int feed(int... numbers) {
        if (tape.length() + 20 > 700) {
            return -1;
        }
        for (int number : numbers) {
            for (int i = 3; i >= 0; i--) {
                tape.append((char) (number >> 8 * i & 255));
            }
        }
        return tape.length();
    }

    int shire(int n) {
        range(n, 0, tape.length());
        String text = tape.substring(0, n);
        tape.setLength(0);
        try {
            land = new Parser(text).read();
        } catch (Fault fault) {
            place = fault.place;
            refused[0]++;
            return fault.kind;
        }
        place = -1;
        now = land.begin.copy();
        acts = new ArrayDeque<>();
        seen = new ArrayList<>();
        imageNow = null;
        return 0;
    }

    private int refuse(int kind) {
        refused[kind]++;
        return -1;
    }

    private int act(State then, int answer) {
        acts.addLast(now);
        if (acts.size() > 40) {
            acts.removeFirst();
        }
        now = then;
        return answer;
    }

    long call(String name, int[] a) {
        return switch (name) {
            case "feed" -> feed(a);
            case "shire" -> shire(a[0]);
            case "fault" -> place;
            case "count" -> count(a[0]);
            case "crossing" -> crossing(a[0], a[1]);
            case "road" -> road(a[0], a[1], a[2]);
            case "person" -> person(a[0], a[1]);
            case "days" -> a[0] < 1 || a[0] > 20 || now.day + a[0] > 9999 ? refuse(1) : act(behind(a[0]), now.day + a[0]);
            case "turn", "shut", "fill", "set" -> change(name, a);
            case "undo" -> undo();
            case "image" -> image();
            case "restore" -> restore() ? 1 : 0;
            case "see" -> see(a[0], a[1], a[2]);
            case "forget" -> forget();
            case "turned" -> turned(a[0]);
            case "look" -> look(a[0]);
            case "wind" -> wind(a[0], a[1], a[2]);
            case "game" -> game(a[0], a[1], a[2]);
            case "years" -> years(a[0], a[1], a[2]);
            case "way" -> way(a[0], a[1], a[2]);
            case "lodged" -> lodged(a[0]);
            case "gather" -> gather(a[0]);
            case "walk" -> walk(a[0], a[1]);
            case "tour" -> tour(a[0]);
            case "circuit" -> circuit() ? 1 : 0;
            case "best" -> best(a[0]);
            case "purse" -> purse(a[0]);
            case "cuts" -> cuts(a[0], a[1]);
            default -> ahead(name, a);
        };
    }

    private int count(int what) {
        what(what, 14);
        return switch (what) {
            case 0 -> crossings();
            case 1 -> people();
            case 2 -> now.day;
            case 3 -> roadCodes().size();
            case 4 -> now.shut.size();
            case 5 -> homeBits(now);
            case 6 -> parts();
            case 7 -> watched();
            case 8 -> now.purse.stream().mapToInt(x -> x).sum();
            case 9 -> acts.size();
            case 10 -> seen.size();
            case 11 -> tape.length();
            default -> refused[what - 12];
        };
    }

    private int crossing(int crossing, int what) {
        hasCrossing(crossing);
        what(what, 6);
        int there = 0;
        for (int person = 0; person < people(); person++) {
            there |= now.where.get(person) == crossing ? 1 << person : 0;
        }
        return switch (what) {
            case 0, 1 -> land.crossings.get(crossing)[what];
            case 2 -> land.roads.get(crossing).size();
            case 3 -> now.arm.get(crossing);
            case 4 -> there;
            case 5 -> part(crossing);
            default -> reached(crossing);
        };
    }

    private int road(int crossing, int road, int what) {
        hasRoad(crossing, road);
        what(what, 1);
        return what == 0 ? land.roads.get(crossing).get(road) : now.shut.contains(10 * crossing + road) ? 1 : 0;
    }

    private int person(int person, int what) {
        hasPerson(person);
        what(what, 4);
        int where = now.where.get(person);
        switch (what) {
            case 0:
                return where;
            case 1:
                return land.homes.get(person);
            case 2:
                return now.purse.get(person);
            case 3:
                lodge();
                return bestRow[person];
            default:
                return (int) now.where.stream().filter(x -> x == where).count() - 1;
        }
    }

    private int change(String name, int[] a) {
        State then = now.copy();
        switch (name) {
            case "turn":
                hasRoad(a[0], a[1]);
                int arm = then.arm.set(a[0], a[1]);
                return arm == a[1] ? refuse(1) : act(then, arm);
            case "shut":
                hasRoad(a[0], a[1]);
                int code = 10 * a[0] + a[1];
                boolean other = a[2] == 1 ? then.shut.add(code) : then.shut.remove(code);
                return other ? act(then, 1) : refuse(1) + 1;
            case "fill":
                hasPerson(a[0]);
                int purse = then.purse.set(a[0], a[1]);
                return a[1] < 0 || a[1] > 99 || purse == a[1] ? refuse(1) : act(then, purse);
            default:
                hasPerson(a[0]);
                hasCrossing(a[1]);
                int where = then.where.set(a[0], a[1]);
                return where == a[1] ? refuse(1) : act(then, where);
        }
    }

    private int undo() {
        if (acts.isEmpty()) {
            return -1;
        }
        now = acts.removeLast();
        return acts.size();
    }

    private int image() {
        imageNow = now;
        imageActs = new ArrayDeque<>(acts);
        imageSeen = new ArrayList<>(seen);
        return 0;
    }

    private boolean restore() {
        if (imageNow == null) {
            return false;
        }
        now = imageNow;
        acts = new ArrayDeque<>(imageActs);
        seen = new ArrayList<>(imageSeen);
        return true;
    }

    private int see(int person, int crossing, int days) {
        hasPerson(person);
        hasCrossing(crossing);
        if (seen.size() == 8 || days < 0 || days > 20) {
            return refuse(2);
        }
        seen.add(new int[] {person, crossing, days});
        return seen.size();
    }

    private int forget() {
        seen = new ArrayList<>();
        return 0;
    }

    private int turned(int what) {
        what(what, 2);
        List<Integer> list = couldBeTurned();
        if (what == 2) {
            return allSeen(now) ? 1 : 0;
        }
        return what == 0 ? list.size() : list.isEmpty() ? -1 : list.get(0);
    }

    private int look(int what) {
        what(what, 1);
        int who = -1;
        int most = 0;
        for (int person = 0; person < people(); person++) {
            Set<Integer> places = new HashSet<>();
            for (int code : couldBeTurned()) {
                places.add(ahead(byTurn(code / 10, code % 10), 6).get(6).where.get(person));
            }
            if (places.size() > most) {
                most = places.size();
                who = person;
            }
        }
        return what == 0 ? who : most;
    }

    private int wind(int person, int days, int tenths) {
        hasPerson(person);
        range(days, 1, 5);
        range(tenths, 0, 10);
        return likely(now, person, days, tenths);
    }

    private int likely(State state, int person, int days, int tenths) {
        if (days == 0) {
            return home(state, person) ? 1 : 0;
        }
        return tenths * likely(next(state, true), person, days - 1, tenths)
                + (10 - tenths) * likely(next(state, false), person, days - 1, tenths);
    }

    private int gain(int person, int[] turners, int[] choices, boolean turns) {
        State from = now.copy();
        for (int i = 0; i < 2; i++) {
            int at = from.where.get(turners[i]);
            int roads = land.roads.get(at).size();
            if (choices[i] == 1 && roads > 0) {
                from.arm.set(at, (from.arm.get(at) + 1) % roads);
            }
        }
        List<State> list = ahead(from, 8);
        int gain = turns ? -1 : 0;
        for (int day = 1; day <= 8; day++) {
            gain += home(list.get(day), person) ? 3 : 0;
        }
        return gain - list.get(8).steps.get(person);
    }

    private int game(int person, int other, int what) {
        hasPerson(person);
        hasPerson(other);
        what(what, 1);
        if (person == other) {
            throw new IllegalArgumentException();
        }
        if (home(now, person) || home(now, other)) {
            return -1;
        }
        int[] both = {person, other};
        List<Integer> rest = new ArrayList<>();
        for (int a = 0; a < 2; a++) {
            for (int b = 0; b < 2; b++) {
                int mine = gain(person, both, new int[] {a, b}, a == 1);
                int yours = gain(other, both, new int[] {a, b}, b == 1);
                int mineElse = gain(person, both, new int[] {1 - a, b}, a == 0);
                int yoursElse = gain(other, both, new int[] {a, 1 - b}, b == 0);
                if (mineElse <= mine && yoursElse <= yours) {
                    rest.add(10 * a + b);
                }
            }
        }
        return what == 0 ? rest.size() : rest.isEmpty() ? -1 : rest.get(0);
    }

    private int seed;

    private int draw(int n) {
        seed = (int) (seed * 1103515245L + 12345L);
        return (seed & 0x7fffffff) / 65536 % n;
    }

    private int years(int start, int n, int what) {
        what(what, 2);
        range(n, 0, 100);
        seed = start;
        State state = ahead(now, 0).get(0);
        for (int day = 0; day < n; day++) {
            int kind = draw(5);
            if (kind == 0 && crossings() > 0) {
                int crossing = draw(crossings());
                if (!land.roads.get(crossing).isEmpty()) {
                    state.arm.set(crossing, draw(land.roads.get(crossing).size()));
                }
            }
            if (kind == 1 && people() > 0) {
                int person = draw(people());
                state.where.set(person, draw(crossings()));
            }
            state = next(state, false);
        }
        return switch (what) {
            case 0 -> state.steps.stream().mapToInt(x -> x).sum();
            case 1 -> Integer.bitCount(homeBits(state));
            default -> state.purse.stream().mapToInt(x -> x).sum();
        };
    }

    private int way(int crossing, int to, int what) {
        hasCrossing(crossing);
        hasCrossing(to);
        what(what, 1);
        return sums(crossing, what == 1)[to];
    }

    private int lodged(int what) {
        what(what, 1);
        lodge();
        return what == 0 ? bestMany : bestCost;
    }

    private int gather(int what) {
        what(what, 2);
        int[] best = {-1, 0, 0};
        for (int crossing = 0; crossing < crossings(); crossing++) {
            int many = 0;
            int cost = 0;
            for (int from : now.where) {
                int sum = sums(from, true)[crossing];
                many += sum >= 0 ? 1 : 0;
                cost += Math.max(sum, 0);
            }
            if (best[0] < 0 || many > best[1] || many == best[1] && cost < best[2]) {
                best = new int[] {crossing, many, cost};
            }
        }
        return best[what];
    }

    private int walk(int crossing, int what) {
        hasCrossing(crossing);
        what(what, 2);
        return what == 0 ? loop(crossing) : what == 1 ? longest(crossing, 1 << crossing) : balance(crossing);
    }

    private int tour(int i) {
        if (i != 0) {
            what(i, crossings() - 1);
        }
        if (crossings() == 0) {
            return -1;
        }
        int[][] costs = new int[crossings()][];
        for (int crossing = 0; crossing < crossings(); crossing++) {
            costs[crossing] = sums(crossing, true);
        }
        bestRow = null;
        tour(new ArrayList<>(List.of(0)), 0, costs);
        return bestRow == null ? -1 : i == 0 ? bestCost : bestRow[i];
    }

    private int best(int person) {
        hasPerson(person);
        int soonest = homeDay(now, person);
        int found = -1;
        for (int code : roadCodes()) {
            int day = homeDay(byTurn(code / 10, code % 10), person);
            if (day < soonest) {
                soonest = day;
                found = code;
            }
        }
        return found;
    }

    private int purse(int person) {
        hasPerson(person);
        for (int sum = 0; sum < 100; sum++) {
            State state = now.copy();
            state.purse.set(person, sum);
            if (homeDay(state, person) <= 60) {
                return sum;
            }
        }
        return -1;
    }

    private int cuts(int person, int what) {
        hasPerson(person);
        what(what, 1);
        List<Integer> list = new ArrayList<>();
        for (int code : roadCodes()) {
            State state = now.copy();
            if (state.shut.add(code) && homeDay(now, person) <= 60 && homeDay(state, person) > 60) {
                list.add(code);
            }
        }
        return what == 0 ? list.size() : list.isEmpty() ? -1 : list.get(0);
    }

    private int ahead(String name, int[] a) {
        switch (name) {
            case "then":
                hasPerson(a[0]);
                what(a[2], 2);
                range(a[1], 0, 100);
                State then = behind(a[1]);
                return List.of(then.where, then.purse, then.steps).get(a[2]).get(a[0]);
            case "points":
                hasCrossing(a[0]);
                range(a[1], 0, 100);
                return behind(a[1]).arm.get(a[0]);
            case "gone":
                hasRoad(a[0], a[1]);
                range(a[2], 0, 100);
                return behind(a[2]).gone.getOrDefault(10 * a[0] + a[1], 0);
            case "later":
                return later(a[0], a[1]);
            case "visited":
                hasPerson(a[0]);
                range(a[1], 0, 100);
                return ahead(now, a[1]).stream().mapToInt(s -> 1 << s.where.get(a[0])).reduce(0, (x, y) -> x | y);
            case "uneven":
                return uneven(a[0], a[1]);
            case "taken":
                return taken(a[0], a[1]);
            case "together":
                hasPerson(a[0]);
                hasPerson(a[1]);
                range(a[2], 1, 100);
                return (int) ahead(now, a[2]).stream().skip(1).filter(s -> s.where.get(a[0]).equals(s.where.get(a[1]))).count();
            default:
                return firstDay(name, a);
        }
    }

    private int uneven(int crossing, int days) {
        hasCrossing(crossing);
        range(days, 0, 100);
        State then = behind(days);
        List<Integer> often = new ArrayList<>();
        for (int road = 0; road < land.roads.get(crossing).size(); road++) {
            often.add(then.gone.getOrDefault(10 * crossing + road, 0));
        }
        often.sort(null);
        return often.isEmpty() ? 0 : often.get(often.size() - 1) - often.get(0);
    }

    /** By what purses lose, day by day and one by one: who comes to the crossing pays its toll. */
    private int taken(int crossing, int days) {
        hasCrossing(crossing);
        range(days, 0, 100);
        int sum = 0;
        List<State> list = ahead(now, days);
        for (int day = 1; day <= days; day++) {
            for (int person = 0; person < people(); person++) {
                if (list.get(day).where.get(person) == crossing) {
                    sum += list.get(day - 1).purse.get(person) - list.get(day).purse.get(person);
                }
            }
        }
        return sum;
    }

    private int later(int days, int what) {
        what(what, 3);
        range(days, what == 2 ? 1 : 0, what == 3 ? 60 : 100);
        List<State> list = ahead(now, days + 20);
        State then = list.get(days);
        int bits = 0;
        int poorest = -1;
        for (int person = 0; person < people(); person++) {
            if (!home(then, person) && list.get(days + 20).steps.get(person).equals(then.steps.get(person))) {
                bits |= 1 << person;
            }
            if (poorest < 0 || then.purse.get(person) < then.purse.get(poorest)) {
                poorest = person;
            }
        }
        int busiest = -1;
        long most = 0;
        for (int crossing = 0; crossing < crossings(); crossing++) {
            int at = crossing;
            long many = list.subList(1, days + 1).stream().flatMap(s -> s.where.stream()).filter(x -> x == at).count();
            if (many > most) {
                most = many;
                busiest = crossing;
            }
        }
        return new int[] {homeBits(then), poorest, busiest, bits}[what];
    }

    private int firstDay(String name, int[] a) {
        switch (name) {
            case "comes":
                hasPerson(a[0]);
                hasCrossing(a[1]);
                return firstWhen(0, 100, s -> s.where.get(a[0]) == a[1]);
            case "meet":
                hasPerson(a[0]);
                hasPerson(a[1]);
                return a[0] == a[1] ? -1 : firstWhen(0, 100, s -> s.where.get(a[0]).equals(s.where.get(a[1])));
            case "round":
                return firstWhen(1, 200, s -> s.where.equals(now.where) && s.arm.equals(now.arm));
            case "first":
                int day = firstWhen(1, 100, s -> (homeBits(s) & ~homeBits(now)) != 0);
                return day < 0 ? -1 : Integer.numberOfTrailingZeros(homeBits(behind(day)) & ~homeBits(now));
            case "covered":
                hasPerson(a[0]);
                int all = reached(now.where.get(a[0]));
                int[] been = {0};
                return firstWhen(0, 100, s -> ((been[0] |= 1 << s.where.get(a[0])) & all) == all);
            case "parting":
                hasPerson(a[0]);
                hasPerson(a[1]);
                if (a[0] == a[1] || !now.where.get(a[0]).equals(now.where.get(a[1]))) {
                    return -1;
                }
                return firstWhen(1, 100, s -> !s.where.get(a[0]).equals(s.where.get(a[1])));
            default:
                throw new IllegalStateException(name);
        }
    }

    private int firstWhen(int from, int to, java.util.function.Predicate<State> holds) {
        List<State> list = ahead(now, to);
        for (int day = from; day <= to; day++) {
            if (holds.test(list.get(day))) {
                return day;
            }
        }
        return -1;
    }
}
