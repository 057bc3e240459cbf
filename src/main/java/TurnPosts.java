import java.util.Arrays;
import java.util.NoSuchElementException;

/** A shire of signposts with a single arm each: see ../shared/DOC.md for its promises. */
public final class TurnPosts {
    public static final int NONE = -1;

    private static final int MOST_CROSSINGS = 9;
    private static final int MOST_ROADS = 5;
    private static final int ALL_ROADS = MOST_CROSSINGS * MOST_ROADS;
    private static final int MOST_PEOPLE = 8;
    private static final int MOST_BYTES = 700;
    private static final int MOST_PURSE = 99;
    private static final int MOST_DAYS_OF_ONE_ACT = 20;
    private static final int LAST_DAY = 9999;
    private static final int MOST_ACTS = 40;
    private static final int MOST_SEEN = 8;
    private static final int SEEN_DAYS = 20;

    /** How far calls look ahead, in days. */
    private static final int AHEAD = 100;
    private static final int AHEAD_HOME = 60;
    private static final int AHEAD_STUCK = 60;
    private static final int STUCK_DAYS = 20;
    private static final int AHEAD_ROUND = 200;
    private static final int AHEAD_LOOK = 6;
    private static final int AHEAD_WIND = 5;
    private static final int AHEAD_GAME = 8;

    /** What is counted as refused. */
    private static final int TEXTS = 0;
    private static final int ACTS = 1;
    private static final int SIGHTS = 2;

    /** The most that a "what" may be, where it is more than 1. */
    private static final int LAST_COUNT = 14;
    private static final int LAST_OF_CROSSING = 6;
    private static final int LAST_OF_PERSON = 4;
    private static final int LAST_LATER = 3;

    private final int[] tape = new int[MOST_BYTES];
    private int fed;
    private int place = NONE;
    private Shire land = new Shire();
    private Shire spare = new Shire();
    private final Reader reader = new Reader(tape, spare);
    private final Moment now = new Moment();
    private final Acts acts = new Acts();
    private final Seen seen = new Seen();
    private boolean hasImage;
    private final Moment imageNow = new Moment();
    private final Acts imageActs = new Acts();
    private final Seen imageSeen = new Seen();
    private final int[] refused = new int[3];
    private final Trip trip = new Trip(land);
    private final Ways ways = new Ways(land);
    private final Draws draws = new Draws();
    private final int[] standing = new int[MOST_CROSSINGS];
    private final int[] places = new int[MOST_PEOPLE];
    private final int[] gains = new int[8];

    public TurnPosts() {
    }

    // ---- the tape and the text

    public int feed(int a, int b, int c, int d, int e) {
        if (fed + 20 > MOST_BYTES) {
            return NONE;
        }
        feedFour(a);
        feedFour(b);
        feedFour(c);
        feedFour(d);
        feedFour(e);
        return fed;
    }

    private void feedFour(int number) {
        for (int shift = 24; shift >= 0 && fed < MOST_BYTES; shift -= 8) {
            tape[fed] = (number >>> shift) & 255;
            fed++;
        }
    }

    public int shire(int n) throws IllegalArgumentException {
        if (n < 0 || n > fed) {
            throw new IllegalArgumentException("the tape has not so many bytes");
        }
        fed = 0;
        int fault = reader.read(n, spare);
        if (fault != 0) {
            place = reader.place;
            refused[TEXTS]++;
            return fault;
        }
        Shire old = land;
        land = spare;
        spare = old;
        now.copy(land.begin);
        acts.clear();
        seen.clear();
        hasImage = false;
        place = NONE;
        return 0;
    }

    public int fault() {
        return place;
    }

    // ---- what is so now

    public int count(int what) throws NoSuchElementException {
        needWhat(what, LAST_COUNT);
        switch (what) {
            case 0: return land.crossings;
            case 1: return land.people;
            case 2: return now.day;
            case 3: return land.allRoads();
            case 4: return shutRoads();
            case 5: return land.atHome(now);
            case 6: return surveyed().parts();
            case 7: return surveyed().watch();
            case 8: return land.purses(now);
            case 9: return acts.size;
            case 10: return seen.size;
            case 11: return fed;
            default: return refused[what - 12];
        }
    }

    private int shutRoads() {
        int many = 0;
        for (int crossing = 0; crossing < land.crossings; crossing++) {
            many += Integer.bitCount(now.shut[crossing]);
        }
        return many;
    }

    public int crossing(int crossing, int what) throws NoSuchElementException {
        needCrossing(crossing);
        needWhat(what, LAST_OF_CROSSING);
        switch (what) {
            case 0: return land.toll[crossing];
            case 1: return land.bed[crossing];
            case 2: return land.roads[crossing];
            case 3: return now.arm[crossing];
            case 4: return land.peopleAt(now, crossing);
            case 5: return surveyed().partOf(crossing);
            default: return surveyed().reach[crossing];
        }
    }

    public int road(int crossing, int road, int what) throws NoSuchElementException {
        needRoad(crossing, road);
        needWhat(what, 1);
        if (what == 0) {
            return land.leads(crossing, road);
        }
        return now.isShut(crossing, road) ? 1 : 0;
    }

    public int person(int person, int what) throws NoSuchElementException {
        needPerson(person);
        needWhat(what, LAST_OF_PERSON);
        switch (what) {
            case 0: return now.where[person];
            case 1: return land.home[person];
            case 2: return now.purse[person];
            case 3: return bedOf(person);
            default: return land.others(now, person);
        }
    }

    private int bedOf(int person) {
        surveyed().lodge();
        return ways.beds[person];
    }

    // ---- acts

    public int days(int many) {
        if (many < 1 || many > MOST_DAYS_OF_ONE_ACT || now.day + many > LAST_DAY) {
            return refuse(ACTS);
        }
        acts.keep(now);
        setOut().go(many);
        now.copy(trip.at);
        return now.day;
    }

    public int turn(int crossing, int road) throws NoSuchElementException {
        needRoad(crossing, road);
        int old = now.arm[crossing];
        if (old == road) {
            return refuse(ACTS);
        }
        acts.keep(now);
        now.arm[crossing] = road;
        return old;
    }

    public boolean shut(int crossing, int road, boolean is) throws NoSuchElementException {
        needRoad(crossing, road);
        if (now.isShut(crossing, road) == is) {
            refuse(ACTS);
            return false;
        }
        acts.keep(now);
        now.shut[crossing] ^= 1 << road;
        return true;
    }

    public int fill(int person, int purse) throws NoSuchElementException {
        needPerson(person);
        int old = now.purse[person];
        if (purse < 0 || purse > MOST_PURSE || purse == old) {
            return refuse(ACTS);
        }
        acts.keep(now);
        now.purse[person] = purse;
        return old;
    }

    public int set(int person, int crossing) throws NoSuchElementException {
        needPerson(person);
        needCrossing(crossing);
        int old = now.where[person];
        if (old == crossing) {
            return refuse(ACTS);
        }
        acts.keep(now);
        now.where[person] = crossing;
        return old;
    }

    public int undo() {
        if (acts.size == 0) {
            return NONE;
        }
        acts.takeBack(now);
        return acts.size;
    }

    private int refuse(int kind) {
        refused[kind]++;
        return NONE;
    }

    public void image() {
        imageNow.copy(now);
        imageActs.copy(acts);
        imageSeen.copy(seen);
        hasImage = true;
    }

    public boolean restore() {
        if (!hasImage) {
            return false;
        }
        now.copy(imageNow);
        acts.copy(imageActs);
        seen.copy(imageSeen);
        return true;
    }

    // ---- if only days go by from now on

    public int then(int person, int days, int what) throws NoSuchElementException, IllegalArgumentException {
        needPerson(person);
        needWhat(what, 2);
        needDays(days, 0, AHEAD);
        setOut().go(days);
        if (what == 0) {
            return trip.at.where[person];
        }
        return what == 1 ? trip.at.purse[person] : trip.steps[person];
    }

    public int points(int crossing, int days) throws NoSuchElementException, IllegalArgumentException {
        needCrossing(crossing);
        needDays(days, 0, AHEAD);
        setOut().go(days);
        return trip.at.arm[crossing];
    }

    public int comes(int person, int crossing) throws NoSuchElementException {
        needPerson(person);
        needCrossing(crossing);
        setOut();
        for (int day = 0; day <= AHEAD; day++) {
            if (trip.at.where[person] == crossing) {
                return day;
            }
            trip.goDay(true);
        }
        return NONE;
    }

    public int meet(int person, int other) throws NoSuchElementException {
        needPerson(person);
        needPerson(other);
        if (person == other) {
            return NONE;
        }
        setOut();
        for (int day = 0; day <= AHEAD; day++) {
            if (trip.areTogether(person, other)) {
                return day;
            }
            trip.goDay(true);
        }
        return NONE;
    }

    public int gone(int crossing, int road, int days) throws NoSuchElementException, IllegalArgumentException {
        needRoad(crossing, road);
        needDays(days, 0, AHEAD);
        setOut().go(days);
        return trip.goings[Shire.roadIndex(crossing, road)];
    }

    public int later(int days, int what) throws NoSuchElementException, IllegalArgumentException {
        needWhat(what, LAST_LATER);
        needDays(days, what == 2 ? 1 : 0, what == 3 ? AHEAD_STUCK : AHEAD);
        setOut();
        switch (what) {
            case 0: return homeAfter(days);
            case 1: return poorest(days);
            case 2: return busiest(days);
            default: return stuck(days);
        }
    }

    private int homeAfter(int days) {
        trip.go(days);
        return land.atHome(trip.at);
    }

    private int poorest(int days) {
        trip.go(days);
        int found = NONE;
        int least = MOST_PURSE + 1;
        for (int person = 0; person < land.people; person++) {
            if (trip.at.purse[person] < least) {
                least = trip.at.purse[person];
                found = person;
            }
        }
        return found;
    }

    private int busiest(int days) {
        Arrays.fill(standing, 0);
        for (int day = 0; day < days; day++) {
            trip.goDay(true);
            for (int person = 0; person < land.people; person++) {
                standing[trip.at.where[person]]++;
            }
        }
        int found = NONE;
        int most = 0;
        for (int crossing = 0; crossing < land.crossings; crossing++) {
            if (standing[crossing] > most) {
                most = standing[crossing];
                found = crossing;
            }
        }
        return found;
    }

    private int stuck(int days) {
        trip.go(days);
        int bits = ((1 << land.people) - 1) & ~land.atHome(trip.at);
        Arrays.fill(trip.steps, 0);
        trip.go(STUCK_DAYS);
        for (int person = 0; person < land.people; person++) {
            if (trip.steps[person] > 0) {
                bits &= ~(1 << person);
            }
        }
        return bits;
    }

    public int round() {
        setOut();
        for (int day = 1; day <= AHEAD_ROUND; day++) {
            trip.goDay(true);
            if (trip.at.standsLike(now)) {
                return day;
            }
        }
        return NONE;
    }

    public int first() {
        int homeNow = land.atHome(now);
        setOut();
        for (int day = 1; day <= AHEAD; day++) {
            trip.goDay(true);
            for (int person = 0; person < land.people; person++) {
                if (trip.isHome(person) && (homeNow >> person & 1) == 0) {
                    return person;
                }
            }
        }
        return NONE;
    }

    public int visited(int person, int days) throws NoSuchElementException, IllegalArgumentException {
        needPerson(person);
        needDays(days, 0, AHEAD);
        setOut();
        int bits = 1 << trip.at.where[person];
        for (int day = 1; day <= days; day++) {
            trip.goDay(true);
            bits |= 1 << trip.at.where[person];
        }
        return bits;
    }

    public int uneven(int crossing, int days) throws NoSuchElementException, IllegalArgumentException {
        needCrossing(crossing);
        needDays(days, 0, AHEAD);
        setOut().go(days);
        int roads = land.roads[crossing];
        if (roads == 0) {
            return 0;
        }
        int most = trip.goings[Shire.roadIndex(crossing, 0)];
        int least = most;
        for (int road = 1; road < roads; road++) {
            int often = trip.goings[Shire.roadIndex(crossing, road)];
            most = Math.max(most, often);
            least = Math.min(least, often);
        }
        return most - least;
    }

    public int together(int person, int other, int days) throws NoSuchElementException, IllegalArgumentException {
        needPerson(person);
        needPerson(other);
        needDays(days, 1, AHEAD);
        setOut();
        int many = 0;
        for (int day = 1; day <= days; day++) {
            trip.goDay(true);
            if (trip.areTogether(person, other)) {
                many++;
            }
        }
        return many;
    }

    public int taken(int crossing, int days) throws NoSuchElementException, IllegalArgumentException {
        needCrossing(crossing);
        needDays(days, 0, AHEAD);
        setOut().go(days);
        int comings = 0;
        for (int from = 0; from < land.crossings; from++) {
            for (int road = 0; road < land.roads[from]; road++) {
                if (land.leads(from, road) == crossing) {
                    comings += trip.goings[Shire.roadIndex(from, road)];
                }
            }
        }
        return comings * land.toll[crossing];
    }

    public int covered(int person) throws NoSuchElementException {
        needPerson(person);
        int left = surveyed().reach[now.where[person]];
        setOut();
        for (int day = 0; day <= AHEAD; day++) {
            left &= ~(1 << trip.at.where[person]);
            if (left == 0) {
                return day;
            }
            trip.goDay(true);
        }
        return NONE;
    }

    public int parting(int person, int other) throws NoSuchElementException {
        needPerson(person);
        needPerson(other);
        if (person == other || now.where[person] != now.where[other]) {
            return NONE;
        }
        setOut();
        for (int day = 1; day <= AHEAD; day++) {
            trip.goDay(true);
            if (!trip.areTogether(person, other)) {
                return day;
            }
        }
        return NONE;
    }

    // ---- if one thing were changed now

    public int best(int person) throws NoSuchElementException {
        needPerson(person);
        int soonest = setOut().daysToHome(person, AHEAD_HOME);
        int found = NONE;
        for (int crossing = 0; crossing < land.crossings; crossing++) {
            for (int road = 0; road < land.roads[crossing]; road++) {
                int days = daysByTurn(person, crossing, road, soonest - 1);
                if (days < soonest) {
                    soonest = days;
                    found = 10 * crossing + road;
                }
            }
        }
        return found;
    }

    private int daysByTurn(int person, int crossing, int road, int limit) {
        if (now.arm[crossing] == road) {
            return limit + 1;
        }
        setOut().at.arm[crossing] = road;
        return trip.daysToHome(person, limit);
    }

    public int purse(int person) throws NoSuchElementException {
        needPerson(person);
        for (int sum = 0; sum <= MOST_PURSE; sum++) {
            setOut().at.purse[person] = sum;
            if (trip.daysToHome(person, AHEAD_HOME) <= AHEAD_HOME) {
                return sum;
            }
        }
        return NONE;
    }

    public int cuts(int person, int what) throws NoSuchElementException {
        needPerson(person);
        needWhat(what, 1);
        int many = 0;
        int found = NONE;
        boolean comesHome = setOut().daysToHome(person, AHEAD_HOME) <= AHEAD_HOME;
        for (int crossing = 0; crossing < land.crossings && comesHome; crossing++) {
            for (int road = 0; road < land.roads[crossing]; road++) {
                if (isCut(person, crossing, road)) {
                    found = many == 0 ? 10 * crossing + road : found;
                    many++;
                }
            }
        }
        return what == 0 ? many : found;
    }

    private boolean isCut(int person, int crossing, int road) {
        if (now.isShut(crossing, road)) {
            return false;
        }
        setOut().at.shut[crossing] |= 1 << road;
        return trip.daysToHome(person, AHEAD_HOME) > AHEAD_HOME;
    }

    // ---- what is seen

    public int see(int person, int crossing, int days) throws NoSuchElementException {
        needPerson(person);
        needCrossing(crossing);
        if (seen.size >= MOST_SEEN || days < 0 || days > SEEN_DAYS) {
            return refuse(SIGHTS);
        }
        seen.add(person, crossing, days);
        return seen.size;
    }

    public void forget() {
        seen.clear();
    }

    public int turned(int what) throws NoSuchElementException {
        needWhat(what, 2);
        if (what == 2) {
            return seen.isSo(setOut()) ? 1 : 0;
        }
        int many = 0;
        int found = NONE;
        for (int crossing = 0; crossing < land.crossings; crossing++) {
            for (int road = 0; road < land.roads[crossing]; road++) {
                if (couldBeTurned(crossing, road)) {
                    found = many == 0 ? 10 * crossing + road : found;
                    many++;
                }
            }
        }
        return what == 0 ? many : found;
    }

    private boolean couldBeTurned(int crossing, int road) {
        if (now.arm[crossing] == road) {
            return false;
        }
        setOut().at.arm[crossing] = road;
        return seen.isSo(trip);
    }

    public int look(int what) throws NoSuchElementException {
        needWhat(what, 1);
        Arrays.fill(places, 0);
        for (int crossing = 0; crossing < land.crossings; crossing++) {
            for (int road = 0; road < land.roads[crossing]; road++) {
                if (couldBeTurned(crossing, road)) {
                    addPlaces(crossing, road);
                }
            }
        }
        int found = NONE;
        int most = 0;
        for (int person = 0; person < land.people; person++) {
            int many = Integer.bitCount(places[person]);
            if (many > most) {
                most = many;
                found = person;
            }
        }
        return what == 0 ? found : most;
    }

    private void addPlaces(int crossing, int road) {
        setOut().at.arm[crossing] = road;
        trip.go(AHEAD_LOOK);
        for (int person = 0; person < land.people; person++) {
            places[person] |= 1 << trip.at.where[person];
        }
    }

    // ---- wind, a game, years

    public int wind(int person, int days, int tenths) throws NoSuchElementException, IllegalArgumentException {
        needPerson(person);
        needDays(days, 1, AHEAD_WIND);
        if (tenths < 0 || tenths > 10) {
            throw new IllegalArgumentException("no such tenths");
        }
        int sum = 0;
        for (int windy = 0; windy < 1 << days; windy++) {
            int chance = 1;
            for (int day = 0; day < days; day++) {
                chance *= (windy >> day & 1) == 1 ? tenths : 10 - tenths;
            }
            if (chance > 0 && isHomeByWind(person, days, windy)) {
                sum += chance;
            }
        }
        return sum;
    }

    private boolean isHomeByWind(int person, int days, int windy) {
        setOut();
        for (int day = 0; day < days; day++) {
            trip.goDay((windy >> day & 1) == 0);
        }
        return trip.isHome(person);
    }

    public int game(int person, int other, int what) throws NoSuchElementException, IllegalArgumentException {
        needPerson(person);
        needPerson(other);
        needWhat(what, 1);
        if (person == other) {
            throw new IllegalArgumentException("both are one");
        }
        if (now.where[person] == land.home[person] || now.where[other] == land.home[other]) {
            return NONE;
        }
        for (int couple = 0; couple < 4; couple++) {
            play(person, other, couple);
        }
        int many = 0;
        int found = NONE;
        for (int couple = 0; couple < 4; couple++) {
            if (rests(couple)) {
                found = many == 0 ? 10 * (couple >> 1) + (couple & 1) : found;
                many++;
            }
        }
        return what == 0 ? many : found;
    }

    /** A couple is 2 by the first one's choice, and the other one's; gains holds the first one's, then the other one's. */
    private void play(int person, int other, int couple) {
        setOut();
        if (couple >> 1 == 1) {
            trip.turnOn(now.where[person], 1);
        }
        if ((couple & 1) == 1) {
            trip.turnOn(now.where[other], 1);
        }
        int gain = -(couple >> 1);
        int otherGain = -(couple & 1);
        for (int day = 1; day <= AHEAD_GAME; day++) {
            trip.goDay(true);
            gain += trip.isHome(person) ? 3 : 0;
            otherGain += trip.isHome(other) ? 3 : 0;
        }
        gains[couple] = gain - trip.steps[person];
        gains[4 + couple] = otherGain - trip.steps[other];
    }

    private boolean rests(int couple) {
        return gains[couple] >= gains[couple ^ 2] && gains[4 + couple] >= gains[4 + (couple ^ 1)];
    }

    public int years(int seed, int n, int what) throws NoSuchElementException, IllegalArgumentException {
        needWhat(what, 2);
        needDays(n, 0, AHEAD);
        setOut();
        draws.seed = seed;
        for (int day = 0; day < n; day++) {
            drawAhead();
            trip.goDay(true);
        }
        if (what == 1) {
            return Integer.bitCount(land.atHome(trip.at));
        }
        return what == 0 ? trip.allSteps() : land.purses(trip.at);
    }

    private void drawAhead() {
        int kind = draws.next(5);
        if (kind == 0 && land.crossings > 0) {
            int crossing = draws.next(land.crossings);
            if (land.roads[crossing] > 0) {
                trip.at.arm[crossing] = draws.next(land.roads[crossing]);
            }
        } else if (kind == 1 && land.people > 0) {
            int person = draws.next(land.people);
            trip.at.where[person] = draws.next(land.crossings);
        }
    }

    // ---- ways by roads that aren't shut

    public int way(int crossing, int to, int what) throws NoSuchElementException {
        needCrossing(crossing);
        needCrossing(to);
        needWhat(what, 1);
        surveyed();
        return orNone(what == 0 ? ways.farFrom(crossing, to) : ways.costFrom(crossing, to));
    }

    public int lodged(int what) throws NoSuchElementException {
        needWhat(what, 1);
        surveyed().lodge();
        return what == 0 ? ways.lodgedPeople : ways.lodgedCost;
    }

    public int gather(int what) throws NoSuchElementException {
        needWhat(what, 2);
        surveyed();
        int found = NONE;
        int most = 0;
        int least = 0;
        for (int crossing = 0; crossing < land.crossings; crossing++) {
            int many = ways.comers(crossing);
            int cost = ways.comersCost(crossing);
            if (found == NONE || many > most || many == most && cost < least) {
                found = crossing;
                most = many;
                least = cost;
            }
        }
        if (what == 0) {
            return found;
        }
        return what == 1 ? most : least;
    }

    public int walk(int crossing, int what) throws NoSuchElementException {
        needCrossing(crossing);
        needWhat(what, 2);
        surveyed();
        switch (what) {
            case 0: return orNone(ways.loop(crossing));
            case 1: return ways.longest(crossing);
            default: return ways.balance(crossing);
        }
    }

    public int tour(int i) throws NoSuchElementException {
        if (i < 0 || i > 0 && i >= land.crossings) {
            throw new NoSuchElementException("no such place in the tour");
        }
        if (land.crossings == 0) {
            return NONE;
        }
        int least = surveyed().planTour();
        if (i == 0 || least >= Ways.NO_WAY) {
            return orNone(least);
        }
        return ways.tourStop(i);
    }

    public boolean circuit() {
        surveyed();
        int whole = 0;
        for (int crossing = 0; crossing < land.crossings; crossing++) {
            if (ways.balance(crossing) != 0) {
                return false;
            }
            // With balance 0 a crossing that a road leads to has one that leads away, too.
            if (ways.next[crossing] != 0) {
                int part = ways.partOf(crossing);
                if (whole != 0 && part != whole) {
                    return false;
                }
                whole = part;
            }
        }
        return true;
    }

    private static int orNone(int length) {
        return length >= Ways.NO_WAY ? NONE : length;
    }

    /** The ways by the roads that are open now. */
    private Ways surveyed() {
        ways.survey(land, now);
        return ways;
    }

    /** A trip that begins now: all calls that look ahead share it. */
    private Trip setOut() {
        trip.begin(land, now);
        return trip;
    }

    // ---- what a call needs

    private void needCrossing(int crossing) {
        if (crossing < 0 || crossing >= land.crossings) {
            throw new NoSuchElementException("no such crossing");
        }
    }

    private void needRoad(int crossing, int road) {
        needCrossing(crossing);
        if (road < 0 || road >= land.roads[crossing]) {
            throw new NoSuchElementException("no such road");
        }
    }

    private void needPerson(int person) {
        if (person < 0 || person >= land.people) {
            throw new NoSuchElementException("no such person");
        }
    }

    private static void needWhat(int what, int last) {
        if (what < 0 || what > last) {
            throw new NoSuchElementException("no such what");
        }
    }

    private static void needDays(int days, int least, int most) {
        if (days < least || days > most) {
            throw new IllegalArgumentException("not so many days");
        }
    }

    /** What changes by days and acts. */
    private static final class Moment {
        /** How many numbers it takes to keep one. */
        private static final int SIZE = 1 + 2 * MOST_PEOPLE + 2 * MOST_CROSSINGS;

        private int day;
        private final int[] where = new int[MOST_PEOPLE];
        private final int[] purse = new int[MOST_PEOPLE];
        private final int[] arm = new int[MOST_CROSSINGS];
        /** Bits of each crossing's roads. */
        private final int[] shut = new int[MOST_CROSSINGS];

        private void clear() {
            day = 0;
            Arrays.fill(where, 0);
            Arrays.fill(purse, 0);
            Arrays.fill(arm, 0);
            Arrays.fill(shut, 0);
        }

        private void copy(Moment other) {
            day = other.day;
            System.arraycopy(other.where, 0, where, 0, MOST_PEOPLE);
            System.arraycopy(other.purse, 0, purse, 0, MOST_PEOPLE);
            System.arraycopy(other.arm, 0, arm, 0, MOST_CROSSINGS);
            System.arraycopy(other.shut, 0, shut, 0, MOST_CROSSINGS);
        }

        private void write(int[] rows, int at) {
            if (at < 0 || at > rows.length - SIZE) {
                return;
            }
            rows[at] = day;
            System.arraycopy(where, 0, rows, at + 1, MOST_PEOPLE);
            System.arraycopy(purse, 0, rows, at + 1 + MOST_PEOPLE, MOST_PEOPLE);
            System.arraycopy(arm, 0, rows, at + 1 + 2 * MOST_PEOPLE, MOST_CROSSINGS);
            System.arraycopy(shut, 0, rows, at + 1 + 2 * MOST_PEOPLE + MOST_CROSSINGS, MOST_CROSSINGS);
        }

        private void readBack(int[] rows, int at) {
            if (at < 0 || at > rows.length - SIZE) {
                return;
            }
            day = rows[at];
            System.arraycopy(rows, at + 1, where, 0, MOST_PEOPLE);
            System.arraycopy(rows, at + 1 + MOST_PEOPLE, purse, 0, MOST_PEOPLE);
            System.arraycopy(rows, at + 1 + 2 * MOST_PEOPLE, arm, 0, MOST_CROSSINGS);
            System.arraycopy(rows, at + 1 + 2 * MOST_PEOPLE + MOST_CROSSINGS, shut, 0, MOST_CROSSINGS);
        }

        private boolean isShut(int crossing, int road) {
            return (shut[crossing] >> road & 1) == 1;
        }

        private boolean standsLike(Moment other) {
            for (int crossing = 0; crossing < MOST_CROSSINGS; crossing++) {
                if (arm[crossing] != other.arm[crossing]) {
                    return false;
                }
            }
            for (int person = 0; person < MOST_PEOPLE; person++) {
                if (where[person] != other.where[person]) {
                    return false;
                }
            }
            return true;
        }
    }

    /** What a text tells and what never changes. */
    private static final class Shire {
        private int crossings;
        private int people;
        private final int[] toll = new int[MOST_CROSSINGS];
        private final int[] bed = new int[MOST_CROSSINGS];
        private final int[] roads = new int[MOST_CROSSINGS];
        private final int[] ends = new int[ALL_ROADS];
        private final int[] home = new int[MOST_PEOPLE];
        private final Rule heeds = new Rule();
        private final Rule turns = new Rule();
        private final Moment begin = new Moment();

        private void clear() {
            crossings = 0;
            people = 0;
            Arrays.fill(roads, 0);
            heeds.length = 0;
            turns.length = 0;
            begin.clear();
        }

        private static int roadIndex(int crossing, int road) {
            return crossing * MOST_ROADS + road;
        }

        private int leads(int crossing, int road) {
            return ends[roadIndex(crossing, road)];
        }

        private void addRoad(int from, int to) {
            if (roads[from] < MOST_ROADS) {
                ends[roadIndex(from, roads[from])] = to;
                roads[from]++;
            }
        }

        private int allRoads() {
            int many = 0;
            for (int crossing = 0; crossing < crossings; crossing++) {
                many += roads[crossing];
            }
            return many;
        }

        private int atHome(Moment moment) {
            int bits = 0;
            for (int person = 0; person < people; person++) {
                if (moment.where[person] == home[person]) {
                    bits |= 1 << person;
                }
            }
            return bits;
        }

        private int peopleAt(Moment moment, int crossing) {
            int bits = 0;
            for (int person = 0; person < people; person++) {
                if (moment.where[person] == crossing) {
                    bits |= 1 << person;
                }
            }
            return bits;
        }

        private int others(Moment moment, int person) {
            return Integer.bitCount(peopleAt(moment, moment.where[person])) - 1;
        }

        private int purses(Moment moment) {
            int sum = 0;
            for (int person = 0; person < people; person++) {
                sum += moment.purse[person];
            }
            return sum;
        }
    }

    /** Days that go by from a moment on, and what is gone in them. */
    private static final class Trip {
        private static final int MOST_TURN = 9;

        private Shire land;
        private final Moment at = new Moment();
        private final int[] steps = new int[MOST_PEOPLE];
        private final int[] goings = new int[ALL_ROADS];
        private final int[] values = new int[Rule.VALUES];

        private Trip(Shire first) {
            land = first;
        }

        private void begin(Shire where, Moment from) {
            land = where;
            at.copy(from);
            Arrays.fill(steps, 0);
            Arrays.fill(goings, 0);
        }

        private void go(int many) {
            for (int day = 0; day < many; day++) {
                goDay(true);
            }
        }

        private void goDay(boolean armsTurn) {
            for (int person = 0; person < land.people; person++) {
                if (!isHome(person) && land.roads[at.where[person]] > 0) {
                    takeTurn(person, armsTurn);
                }
            }
            at.day++;
        }

        private void takeTurn(int person, boolean armsTurn) {
            int from = at.where[person];
            if (land.heeds.isTold() || land.turns.isTold()) {
                findValues(person, from);
            }
            if (land.heeds.isTold() && land.heeds.value(values) <= 0) {
                return;
            }
            int turn = 1;
            if (land.turns.isTold()) {
                turn = Math.max(0, Math.min(MOST_TURN, land.turns.value(values)));
            }
            follow(person, from);
            if (armsTurn) {
                turnOn(from, turn);
            }
        }

        private void findValues(int person, int crossing) {
            values[Rule.ARM] = at.arm[crossing];
            values[Rule.ROADS] = land.roads[crossing];
            values[Rule.PURSE] = at.purse[person];
            values[Rule.WITH] = Integer.bitCount(land.peopleAt(at, crossing)) - 1;
            values[Rule.DAY] = at.day;
        }

        private void follow(int person, int from) {
            int road = at.arm[from];
            int to = land.leads(from, road);
            if (!at.isShut(from, road) && at.purse[person] >= land.toll[to]) {
                at.where[person] = to;
                at.purse[person] -= land.toll[to];
                steps[person]++;
                goings[Shire.roadIndex(from, road)]++;
            }
        }

        private void turnOn(int crossing, int many) {
            int roads = land.roads[crossing];
            if (roads > 0) {
                at.arm[crossing] = (at.arm[crossing] + many) % roads;
            }
        }

        private boolean isHome(int person) {
            return at.where[person] == land.home[person];
        }

        private boolean areTogether(int person, int other) {
            return at.where[person] == at.where[other];
        }

        /** Behind how many days one is at home; more than the limit, if not within it. */
        private int daysToHome(int person, int limit) {
            for (int day = 0; day <= limit; day++) {
                if (isHome(person)) {
                    return day;
                }
                if (day < limit) {
                    goDay(true);
                }
            }
            return limit + 1;
        }

        private int allSteps() {
            int sum = 0;
            for (int person = 0; person < land.people; person++) {
                sum += steps[person];
            }
            return sum;
        }
    }

    /** An expression, its parts ahead of what joins them: numbers as they are, values and joins below 0. */
    private static final class Rule {
        private static final int VALUES = 5;
        private static final int ARM = 0;
        private static final int ROADS = 1;
        private static final int PURSE = 2;
        private static final int WITH = 3;
        private static final int DAY = 4;

        private static final int OR = -6;
        private static final int AND = -7;
        private static final int NOT = -8;
        private static final int LESS = -9;
        private static final int SAME = -10;
        private static final int PLUS = -11;
        private static final int MINUS = -12;
        private static final int TIMES = -13;
        private static final int OVER = -14;

        /** Five joins may wait for their second part in each of six expressions within one another. */
        private static final int WAITING = 40;

        private final int[] code = new int[MOST_BYTES];
        private final int[] stack = new int[WAITING];
        private int length;

        private boolean isTold() {
            return length > 0;
        }

        private void add(int item) {
            if (length < code.length) {
                code[length] = item;
                length++;
            }
        }

        private void addValue(int value) {
            add(-1 - value);
        }

        private int value(int[] values) {
            int top = 0;
            for (int i = 0; i < length && i < code.length; i++) {
                int item = code[i];
                if (item >= -VALUES) {
                    if (top < stack.length) {
                        stack[top] = item >= 0 ? item : values[-1 - item];
                        top++;
                    }
                } else if (item == NOT) {
                    if (top > 0) {
                        stack[top - 1] = stack[top - 1] == 0 ? 1 : 0;
                    }
                } else if (top > 1) {
                    top--;
                    stack[top - 1] = join(item, stack[top - 1], stack[top]);
                }
            }
            return top > 0 ? stack[top - 1] : 0;
        }

        private static int join(int item, int left, int right) {
            switch (item) {
                case OR: return left != 0 || right != 0 ? 1 : 0;
                case AND: return left != 0 && right != 0 ? 1 : 0;
                case LESS: return left < right ? 1 : 0;
                case SAME: return left == right ? 1 : 0;
                case PLUS: return left + right;
                case MINUS: return left - right;
                case TIMES: return left * right;
                default: return right == 0 ? 0 : left / right;
            }
        }
    }

    /** The acts that are kept: of each the moment ahead of it, in a ring. */
    private static final class Acts {
        private final int[] rows = new int[MOST_ACTS * Moment.SIZE];
        private int oldest;
        private int size;

        private void clear() {
            oldest = 0;
            size = 0;
        }

        private void keep(Moment moment) {
            moment.write(rows, (oldest + size) % MOST_ACTS * Moment.SIZE);
            if (size < MOST_ACTS) {
                size++;
            } else {
                oldest = (oldest + 1) % MOST_ACTS;
            }
        }

        private void takeBack(Moment moment) {
            if (size > 0) {
                size--;
                moment.readBack(rows, (oldest + size) % MOST_ACTS * Moment.SIZE);
            }
        }

        private void copy(Acts other) {
            System.arraycopy(other.rows, 0, rows, 0, rows.length);
            oldest = other.oldest;
            size = other.size;
        }
    }

    /** Who was seen where, behind how many days. */
    private static final class Seen {
        private final int[] who = new int[MOST_SEEN];
        private final int[] where = new int[MOST_SEEN];
        private final int[] behind = new int[MOST_SEEN];
        private int size;

        private void clear() {
            size = 0;
        }

        private void add(int person, int crossing, int days) {
            if (size < MOST_SEEN) {
                who[size] = person;
                where[size] = crossing;
                behind[size] = days;
                size++;
            }
        }

        private void copy(Seen other) {
            System.arraycopy(other.who, 0, who, 0, MOST_SEEN);
            System.arraycopy(other.where, 0, where, 0, MOST_SEEN);
            System.arraycopy(other.behind, 0, behind, 0, MOST_SEEN);
            size = other.size;
        }

        private boolean isSo(Trip trip) {
            int last = lastDay();
            for (int day = 0; day <= last; day++) {
                if (!isSoOn(day, trip.at)) {
                    return false;
                }
                if (day < last) {
                    trip.goDay(true);
                }
            }
            return true;
        }

        private int lastDay() {
            int last = 0;
            for (int i = 0; i < size; i++) {
                last = Math.max(last, behind[i]);
            }
            return last;
        }

        private boolean isSoOn(int day, Moment moment) {
            for (int i = 0; i < size; i++) {
                if (behind[i] == day && moment.where[who[i]] != where[i]) {
                    return false;
                }
            }
            return true;
        }
    }

    private static final class Draws {
        private int seed;

        private int next(int many) {
            if (many <= 0) {
                return 0;
            }
            seed = seed * 1103515245 + 12345;
            return (seed >>> 16 & 32767) % many;
        }
    }

    /** Ways by roads that aren't shut, whatever arms and purses say. */
    private static final class Ways {
        /** Longer and dearer than any way, and than a whole tour. */
        private static final int NO_WAY = 10000;
        /** One more who is lodged outweighs all that ways can cost. */
        private static final int ONE_LODGED = 1000;
        private static final int SETS = 1 << MOST_CROSSINGS;

        private Shire land;
        private final int[] far = new int[MOST_CROSSINGS * MOST_CROSSINGS];
        private final int[] cost = new int[MOST_CROSSINGS * MOST_CROSSINGS];
        /** Of each crossing: bits of those to which a road leads, and of all to which one comes. */
        private final int[] next = new int[MOST_CROSSINGS];
        private final int[] reach = new int[MOST_CROSSINGS];
        /** Open roads to a crossing, less those from it. */
        private final int[] surplus = new int[MOST_CROSSINGS];
        private final int[] where = new int[MOST_PEOPLE];
        private final int[] beds = new int[MOST_PEOPLE];
        private int lodgedPeople;
        private int lodgedCost;
        /** For whatever goes through all sets of crossings: room for nine numbers a set. */
        private final int[] table = new int[SETS * MOST_CROSSINGS];

        private Ways(Shire first) {
            land = first;
        }

        private void survey(Shire shire, Moment moment) {
            land = shire;
            System.arraycopy(moment.where, 0, where, 0, MOST_PEOPLE);
            layRoads(moment);
            for (int by = 0; by < land.crossings; by++) {
                joinWays(by);
            }
            for (int from = 0; from < land.crossings; from++) {
                reach[from] = 0;
                for (int to = 0; to < land.crossings; to++) {
                    if (farFrom(from, to) < NO_WAY) {
                        reach[from] |= 1 << to;
                    }
                }
            }
        }

        private void layRoads(Moment moment) {
            Arrays.fill(far, NO_WAY);
            Arrays.fill(cost, NO_WAY);
            Arrays.fill(next, 0);
            Arrays.fill(surplus, 0);
            for (int from = 0; from < land.crossings; from++) {
                far[pair(from, from)] = 0;
                cost[pair(from, from)] = 0;
                for (int road = 0; road < land.roads[from]; road++) {
                    if (!moment.isShut(from, road)) {
                        layRoad(from, land.leads(from, road));
                    }
                }
            }
        }

        private void layRoad(int from, int to) {
            far[pair(from, to)] = 1;
            cost[pair(from, to)] = land.toll[to];
            next[from] |= 1 << to;
            surplus[from]--;
            surplus[to]++;
        }

        private void joinWays(int by) {
            for (int from = 0; from < land.crossings; from++) {
                for (int to = 0; to < land.crossings; to++) {
                    int at = pair(from, to);
                    far[at] = Math.min(far[at], farFrom(from, by) + farFrom(by, to));
                    cost[at] = Math.min(cost[at], costFrom(from, by) + costFrom(by, to));
                }
            }
        }

        private static int pair(int from, int to) {
            return from * MOST_CROSSINGS + to;
        }

        private int farFrom(int from, int to) {
            return far[pair(from, to)];
        }

        private int costFrom(int from, int to) {
            return cost[pair(from, to)];
        }

        private int balance(int crossing) {
            return surplus[crossing];
        }

        private int partOf(int crossing) {
            int bits = 0;
            for (int other = 0; other < land.crossings; other++) {
                if ((reach[crossing] >> other & 1) == 1 && (reach[other] >> crossing & 1) == 1) {
                    bits |= 1 << other;
                }
            }
            return bits;
        }

        private int parts() {
            int many = 0;
            for (int crossing = 0; crossing < land.crossings; crossing++) {
                // A part is counted at its least crossing.
                int less = (1 << crossing) - 1;
                if ((partOf(crossing) & less) == 0) {
                    many++;
                }
            }
            return many;
        }

        private int watch() {
            int found = 0;
            int fewest = MOST_CROSSINGS + 1;
            for (int set = 0; set < 1 << land.crossings; set++) {
                if (Integer.bitCount(set) < fewest && watchesAll(set)) {
                    fewest = Integer.bitCount(set);
                    found = set;
                }
            }
            return found;
        }

        private boolean watchesAll(int set) {
            for (int from = 0; from < land.crossings; from++) {
                if ((set >> from & 1) == 0 && (next[from] & ~set) != 0) {
                    return false;
                }
            }
            return true;
        }

        private int loop(int crossing) {
            int least = NO_WAY;
            for (int to = 0; to < land.crossings; to++) {
                if ((next[crossing] >> to & 1) == 1) {
                    least = Math.min(least, 1 + farFrom(to, crossing));
                }
            }
            return least;
        }

        /** Of each set the table holds where a walk can end that comes to just that set. */
        private int longest(int crossing) {
            int sets = 1 << land.crossings;
            for (int set = 0; set < sets; set++) {
                table[set] = 0;
            }
            table[1 << crossing] = 1 << crossing;
            int most = 0;
            for (int set = 0; set < sets; set++) {
                if (table[set] != 0) {
                    most = Math.max(most, Integer.bitCount(set) - 1);
                    walkOn(set);
                }
            }
            return most;
        }

        private void walkOn(int set) {
            int fresh = 0;
            for (int end = 0; end < land.crossings; end++) {
                if ((table[set] >> end & 1) == 1) {
                    fresh |= next[end] & ~set;
                }
            }
            for (int to = 0; to < land.crossings; to++) {
                if ((fresh >> to & 1) == 1) {
                    table[set | 1 << to] |= 1 << to;
                }
            }
        }

        private int comers(int crossing) {
            int many = 0;
            for (int person = 0; person < land.people; person++) {
                many += reach[where[person]] >> crossing & 1;
            }
            return many;
        }

        private int comersCost(int crossing) {
            int sum = 0;
            for (int person = 0; person < land.people; person++) {
                int toll = costFrom(where[person], crossing);
                sum += toll < NO_WAY ? toll : 0;
            }
            return sum;
        }

        /** Of each person and set of beds taken by those ahead the table holds the best that is left to do. */
        private void lodge() {
            int all = allBeds();
            for (int person = land.people; person >= 0; person--) {
                for (int set = 0; set <= all; set++) {
                    // Other sets are never taken: what the table holds of them is never looked at.
                    if ((set & ~all) == 0) {
                        table[lodging(person, set)] = person == land.people ? 0 : worth(person, set, bestBed(person, set));
                    }
                }
            }
            takeBeds();
        }

        private int allBeds() {
            int bits = 0;
            for (int crossing = 0; crossing < land.crossings; crossing++) {
                bits |= land.bed[crossing] << crossing;
            }
            return bits;
        }

        private void takeBeds() {
            int taken = 0;
            lodgedPeople = 0;
            lodgedCost = 0;
            for (int person = 0; person < land.people; person++) {
                int bed = bestBed(person, taken);
                beds[person] = bed;
                if (bed != NONE) {
                    taken |= 1 << bed;
                    lodgedPeople++;
                    lodgedCost += costFrom(where[person], bed);
                }
            }
        }

        private static int lodging(int person, int set) {
            return person * SETS + set;
        }

        /** The bed by which most is gained, the first of like ones; none only if each one gains less. */
        private int bestBed(int person, int taken) {
            int found = NONE;
            int most = worth(person, taken, NONE);
            for (int bed = land.crossings - 1; bed >= 0; bed--) {
                int gain = canSleep(person, taken, bed) ? worth(person, taken, bed) : NONE;
                if (gain >= most) {
                    most = gain;
                    found = bed;
                }
            }
            return found;
        }

        private boolean canSleep(int person, int taken, int bed) {
            return land.bed[bed] == 1 && (taken >> bed & 1) == 0 && (reach[where[person]] >> bed & 1) == 1;
        }

        private int worth(int person, int taken, int bed) {
            if (bed == NONE) {
                return table[lodging(person + 1, taken)];
            }
            return ONE_LODGED - costFrom(where[person], bed) + table[lodging(person + 1, taken | 1 << bed)];
        }

        /** Of each set and crossing the table holds what it costs at least to go on to all others and back to 0. */
        private int planTour() {
            int whole = (1 << land.crossings) - 1;
            // Crossing 0 is in every set of a tour.
            for (int set = whole; set > 0; set -= 2) {
                for (int at = 0; at < land.crossings; at++) {
                    if ((set >> at & 1) == 1) {
                        table[stage(set, at)] = set == whole ? costFrom(at, 0) : costOn(set, at, nextStop(set, at));
                    }
                }
            }
            return table[stage(1, 0)];
        }

        private int costOn(int set, int at, int stop) {
            if (stop == NONE) {
                return NO_WAY;
            }
            return Math.min(NO_WAY, costFrom(at, stop) + table[stage(set | 1 << stop, stop)]);
        }

        private static int stage(int set, int at) {
            return set * MOST_CROSSINGS + at;
        }

        private int nextStop(int set, int at) {
            int found = NONE;
            int least = NO_WAY;
            for (int stop = 0; stop < land.crossings; stop++) {
                int cost = (set >> stop & 1) == 0 ? costOn(set, at, stop) : NO_WAY;
                if (cost < least) {
                    least = cost;
                    found = stop;
                }
            }
            return found;
        }

        /** The i-th crossing of the tour that planTour found. */
        private int tourStop(int i) {
            int set = 1;
            int at = 0;
            for (int stop = 0; stop < i && at != NONE; stop++) {
                at = nextStop(set, at);
                if (at != NONE) {
                    set |= 1 << at;
                }
            }
            return at;
        }
    }

    /** Words, numbers and signs of a text, one after the other. */
    private static final class Tokens {
        private static final int END = 0;
        private static final int WORD = 1;
        private static final int NUMBER = 2;
        private static final int NO_TOKEN = 3;

        private static final int MOST_DIGITS = 4;

        private final int[] text;
        private int length;
        private int at;
        /** One of those above, or the sign itself. */
        private int kind;
        private int start;
        private int number;

        private Tokens(int[] bytes) {
            text = bytes;
        }

        private void open(int n) {
            length = Math.min(n, text.length);
            at = 0;
            advance();
        }

        private void advance() {
            while (at < length && (text[at] == ' ' || text[at] == '\n')) {
                at++;
            }
            start = at;
            number = 0;
            kind = at < length ? kindOf(text[at]) : END;
            int most = kind == WORD || kind == NUMBER ? length : Math.min(length, at + 1);
            while (at < most && kindOf(text[at]) == kind) {
                if (kind == NUMBER && at - start < MOST_DIGITS) {
                    number = number * 10 + text[at] - '0';
                }
                at++;
            }
        }

        private static int kindOf(int sign) {
            if (sign >= 'a' && sign <= 'z') {
                return WORD;
            }
            if (sign >= '0' && sign <= '9') {
                return NUMBER;
            }
            return ";()+-*/<=".indexOf((char) sign) >= 0 ? sign : NO_TOKEN;
        }

        private boolean isTooLong() {
            return at - start > MOST_DIGITS;
        }

        private boolean isWord(String word) {
            if (kind != WORD || at - start != word.length()) {
                return false;
            }
            for (int i = 0; i < word.length(); i++) {
                if (text[start + i] != word.charAt(i)) {
                    return false;
                }
            }
            return true;
        }
    }

    /** Reads a text into a shire, up to its first fault. */
    private static final class Reader {
        private static final int CANNOT_STAND = 1;
        private static final int TOO_MUCH = 2;
        private static final int NOT_TOLD = 3;
        private static final int BAD_ROAD = 4;
        private static final int TOLD_TWICE = 5;

        private static final int MOST_TOLL = 9;
        private static final int MOST_WITHIN = 6;
        private static final int MOST_NOTS = 6;

        private final Tokens tokens;
        private Shire land;
        private Rule rule;
        private int armsTold;
        private int fault;
        private int place;

        private Reader(int[] text, Shire first) {
            tokens = new Tokens(text);
            land = first;
            rule = first.heeds;
        }

        private int read(int n, Shire into) {
            land = into;
            land.clear();
            armsTold = 0;
            fault = 0;
            tokens.open(n);
            boolean reads = true;
            for (int line = 0; line < MOST_BYTES && reads && tokens.kind != Tokens.END; line++) {
                reads = readLine();
            }
            return fault;
        }

        private boolean fail(int kind) {
            fault = kind;
            place = tokens.start;
            return false;
        }

        private boolean readLine() {
            boolean reads;
            if (tokens.isWord("crossing")) {
                reads = readCrossing();
            } else if (tokens.isWord("road")) {
                reads = readRoad();
            } else if (tokens.isWord("person")) {
                reads = readPerson();
            } else if (tokens.isWord("arm")) {
                reads = readArm();
            } else if (tokens.isWord("heeds")) {
                reads = readRule(land.heeds);
            } else if (tokens.isWord("turns")) {
                reads = readRule(land.turns);
            } else {
                reads = fail(CANNOT_STAND);
            }
            return reads && readSign(';');
        }

        private boolean readSign(char sign) {
            if (tokens.kind != sign) {
                return fail(CANNOT_STAND);
            }
            tokens.advance();
            return true;
        }

        private boolean isNumber() {
            if (tokens.kind != Tokens.NUMBER) {
                return fail(CANNOT_STAND);
            }
            return !tokens.isTooLong() || fail(TOO_MUCH);
        }

        private boolean isNumberTo(int most) {
            return isNumber() && (tokens.number <= most || fail(TOO_MUCH));
        }

        private boolean isTold(int many) {
            return isNumber() && (tokens.number < many || fail(NOT_TOLD));
        }

        private int take() {
            int number = tokens.number;
            tokens.advance();
            return number;
        }

        private boolean readCrossing() {
            if (land.crossings >= MOST_CROSSINGS) {
                return fail(TOO_MUCH);
            }
            tokens.advance();
            if (!isNumberTo(MOST_TOLL)) {
                return false;
            }
            int toll = take();
            if (!isNumberTo(1)) {
                return false;
            }
            land.toll[land.crossings] = toll;
            land.bed[land.crossings] = take();
            land.crossings++;
            return true;
        }

        private boolean readRoad() {
            tokens.advance();
            if (!isTold(land.crossings)) {
                return false;
            }
            if (land.roads[tokens.number] >= MOST_ROADS) {
                return fail(BAD_ROAD);
            }
            int from = take();
            if (!isTold(land.crossings)) {
                return false;
            }
            if (tokens.number == from) {
                return fail(BAD_ROAD);
            }
            land.addRoad(from, take());
            return true;
        }

        private boolean readPerson() {
            if (land.people >= MOST_PEOPLE) {
                return fail(TOO_MUCH);
            }
            tokens.advance();
            if (!isTold(land.crossings)) {
                return false;
            }
            int where = take();
            if (!isTold(land.crossings)) {
                return false;
            }
            int home = take();
            if (!isNumberTo(MOST_PURSE)) {
                return false;
            }
            land.begin.where[land.people] = where;
            land.home[land.people] = home;
            land.begin.purse[land.people] = take();
            land.people++;
            return true;
        }

        private boolean readArm() {
            tokens.advance();
            if (!isTold(land.crossings)) {
                return false;
            }
            if ((armsTold >> tokens.number & 1) == 1) {
                return fail(TOLD_TWICE);
            }
            int crossing = take();
            if (!isTold(land.roads[crossing])) {
                return false;
            }
            armsTold |= 1 << crossing;
            land.begin.arm[crossing] = take();
            return true;
        }

        private boolean readRule(Rule into) {
            if (into.isTold()) {
                return fail(TOLD_TWICE);
            }
            rule = into;
            tokens.advance();
            return readExpr(0);
        }

        /** within: how many other expressions stand round this one. */
        private boolean readExpr(int within) {
            if (within >= MOST_WITHIN) {
                return fail(canBegin() ? TOO_MUCH : CANNOT_STAND);
            }
            boolean reads = readAnd(within);
            for (int i = 0; i < MOST_BYTES && reads && tokens.isWord("or"); i++) {
                tokens.advance();
                reads = readAnd(within);
                rule.add(Rule.OR);
            }
            return reads;
        }

        private boolean canBegin() {
            return tokens.kind == Tokens.NUMBER || tokens.kind == Tokens.WORD || tokens.kind == '(';
        }

        private boolean readAnd(int within) {
            boolean reads = readNot(within);
            for (int i = 0; i < MOST_BYTES && reads && tokens.isWord("and"); i++) {
                tokens.advance();
                reads = readNot(within);
                rule.add(Rule.AND);
            }
            return reads;
        }

        private boolean readNot(int within) {
            int nots = 0;
            while (nots < MOST_NOTS && tokens.isWord("not")) {
                tokens.advance();
                nots++;
            }
            if (nots == MOST_NOTS && tokens.isWord("not")) {
                return fail(TOO_MUCH);
            }
            boolean reads = readTest(within);
            for (int i = 0; i < nots; i++) {
                rule.add(Rule.NOT);
            }
            return reads;
        }

        private boolean readTest(int within) {
            boolean reads = readSum(within);
            if (reads && (tokens.kind == '<' || tokens.kind == '=')) {
                int join = tokens.kind == '<' ? Rule.LESS : Rule.SAME;
                tokens.advance();
                reads = readSum(within);
                rule.add(join);
            }
            return reads;
        }

        private boolean readSum(int within) {
            boolean reads = readProduct(within);
            for (int i = 0; i < MOST_BYTES && reads && (tokens.kind == '+' || tokens.kind == '-'); i++) {
                int join = tokens.kind == '+' ? Rule.PLUS : Rule.MINUS;
                tokens.advance();
                reads = readProduct(within);
                rule.add(join);
            }
            return reads;
        }

        private boolean readProduct(int within) {
            boolean reads = readPart(within);
            for (int i = 0; i < MOST_BYTES && reads && (tokens.kind == '*' || tokens.kind == '/'); i++) {
                int join = tokens.kind == '*' ? Rule.TIMES : Rule.OVER;
                tokens.advance();
                reads = readPart(within);
                rule.add(join);
            }
            return reads;
        }

        private boolean readPart(int within) {
            if (tokens.kind == '(') {
                tokens.advance();
                return readExpr(within + 1) && readSign(')');
            }
            if (tokens.kind == Tokens.WORD) {
                return readValue();
            }
            if (!isNumber()) {
                return false;
            }
            rule.add(take());
            return true;
        }

        private boolean readValue() {
            if (tokens.isWord("arm")) {
                rule.addValue(Rule.ARM);
            } else if (tokens.isWord("roads")) {
                rule.addValue(Rule.ROADS);
            } else if (tokens.isWord("purse")) {
                rule.addValue(Rule.PURSE);
            } else if (tokens.isWord("with")) {
                rule.addValue(Rule.WITH);
            } else if (tokens.isWord("day")) {
                rule.addValue(Rule.DAY);
            } else {
                return fail(NOT_TOLD);
            }
            tokens.advance();
            return true;
        }
    }
}
