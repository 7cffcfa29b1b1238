import java.util.Arrays;

/** People who may go along no road twice; what each call answers is told by the numbered promises of the document. */
public final class EachRoadOnce {
    public static final int NONE = -1;

    private static final int PLACES = 8;
    private static final int ROADS = 16;
    private static final int PEOPLE = 6;
    private static final int MILES = 60;
    private static final int ANEW = 99;
    private static final int TAPE = 250;
    private static final int SHELVES = 8;
    private static final int ELEMENTS = 40;
    private static final int RUN = 60;
    private static final int TOLD = 20;
    private static final int WANTS = 8;
    private static final int TRAIL_ROADS = 12;
    private static final int WANT_ROADS = 10;

    private static final int BAD = -2;
    private static final int OTHER = -3;
    private static final int NOTHING = -4;
    private static final int STUCK = -5;
    private static final int FULL = -6;
    private static final int FINE = 0;

    private final Land now = new Land();
    private final Land kept = new Land();
    /** What runs, told lives and texts may spoil, so that the land itself stays. */
    private final Land trial = new Land();
    private final Tape tape = new Tape();
    private final Shelf[] shelves = new Shelf[SHELVES];
    private final Trails trails = new Trails();
    private final int[] milesOfOne = new int[PLACES];
    private final int[] milesOfOther = new int[PLACES];
    private final int[] refusals = new int[BAD - FULL + 1];
    private boolean hasKept;

    public EachRoadOnce() {
        for (int s = 0; s < SHELVES; s++) {
            shelves[s] = new Shelf();
        }
    }

    // ---- shelves

    public int row(int s, int sort, int n) {
        if (!isShelf(s) || !isBetween(sort, Shelf.BYTES, Shelf.BOOLEANS) || !isBetween(n, 0, ELEMENTS)) {
            return refuse(BAD);
        }
        shelves[s].becomeRow(sort, n);
        return 1;
    }

    public int set(int s, int i, long v) {
        if (!isShelf(s)) {
            return refuse(BAD);
        }
        int trouble = rowTrouble(s);
        if (trouble != FINE) {
            return refuse(trouble);
        }
        if (!isBetween(i, 0, shelves[s].size - 1)) {
            return refuse(BAD);
        }
        shelves[s].put(i, v);
        return 1;
    }

    public int copy(int p, int q, int i, int j, int n) {
        if (!isShelf(p) || !isShelf(q)) {
            return refuse(BAD);
        }
        int trouble = copyTrouble(shelves[p], shelves[q]);
        if (trouble != FINE) {
            return refuse(trouble);
        }
        if (!shelves[p].hasStretch(i, n) || !shelves[q].hasStretch(j, n)) {
            return refuse(BAD);
        }
        System.arraycopy(shelves[p].elements, i, shelves[q].elements, j, n);
        return n;
    }

    public long element(int s, int i) {
        if (!isShelf(s) || !shelves[s].isRow() || !isBetween(i, 0, shelves[s].size - 1)) {
            return 0;
        }
        return shelves[s].elements[i];
    }

    public int holds(int s) {
        return isShelf(s) ? shelves[s].content : NONE;
    }

    public int rule(int s, int kind, int a) {
        if (!isShelf(s) || !isBetween(kind, Guide.NEAR, Guide.LOW) || !isBetween(a, 0, Shelf.MOST_A)) {
            return refuse(BAD);
        }
        shelves[s].becomeRule(kind, a);
        return 1;
    }

    public int says(int s, int kind) {
        if (!isShelf(s) || !isBetween(kind, Guide.RULE, Guide.LOW)) {
            return refuse(BAD);
        }
        int trouble = ruleTrouble(s);
        if (trouble == FINE && !Guide.isUnder(shelves[s].kind(), kind)) {
            trouble = OTHER;
        }
        if (trouble != FINE) {
            return refuse(trouble);
        }
        if (kind == Guide.RULE) {
            return shelves[s].a;
        }
        // Its own kind says the road: being taken for a kind above it only lets it be asked.
        return now.people == 0 ? refuse(STUCK) : Guide.chosen(now, shelves[s], 0, 0);
    }

    // ---- the land

    public int road(int from, int to, int miles, boolean round) {
        if (!isPlace(from) || !isPlace(to) || from == to || !isBetween(miles, 1, MILES)) {
            return refuse(BAD);
        }
        return now.roads == ROADS ? refuse(FULL) : now.build(from, to, miles, round);
    }

    public int one(int home) {
        if (!isPlace(home)) {
            return refuse(BAD);
        }
        return now.people == PEOPLE ? refuse(FULL) : now.settle(home);
    }

    public int shut(int road, boolean is) {
        if (!isRoad(road)) {
            return refuse(BAD);
        }
        if (has(now.shutRoads, road) == is) {
            return 0;
        }
        now.shutRoads ^= 1 << road;
        return 1;
    }

    public int anew(int v) {
        if (!isBetween(v, 0, ANEW)) {
            return refuse(BAD);
        }
        int ahead = now.anew;
        now.anew = v;
        return ahead;
    }

    public int feed(int v, int n) {
        if (!isBetween(n, 1, 4)) {
            return refuse(BAD);
        }
        if (tape.size + n > TAPE) {
            return refuse(FULL);
        }
        tape.append(v, n);
        return tape.size;
    }

    public int wipe() {
        int ahead = tape.size;
        tape.size = 0;
        return ahead;
    }

    public int land() {
        trial.become(now);
        int statements = tape.readOnto(trial);
        int fault = tape.fault;
        tape.size = 0;
        if (fault != NONE) {
            refuse(BAD);
            return -20 - fault;
        }
        now.become(trial);
        return statements;
    }

    public int roadOf(int road, int what) {
        if (!isRoad(road)) {
            return refuse(BAD);
        }
        switch (what) {
            case 0: return now.from[road];
            case 1: return now.to[road];
            case 2: return now.miles[road];
            case 3: return has(now.shutRoads, road) ? 1 : 0;
            case 4: return has(now.roundRoads, road) ? 1 : 0;
            default: return refuse(BAD);
        }
    }

    public int oneOf(int one, int what) {
        if (!isOne(one)) {
            return refuse(BAD);
        }
        switch (what) {
            case 0: return now.home[one];
            case 1: return now.place[one];
            case 2: return now.been[one];
            case 3: return now.gone[one];
            default: return refuse(BAD);
        }
    }

    public int when(int one, int road) {
        return isOne(one) && isRoad(road) ? now.lastYear(one, road) : refuse(BAD);
    }

    public int left(int one) {
        return isOne(one) ? now.leftTo(one) : refuse(BAD);
    }

    public int here(int one) {
        return isOne(one) ? now.leftHere(one) : refuse(BAD);
    }

    public int reach(int one) {
        return isOne(one) ? now.reachOf(one) : refuse(BAD);
    }

    public int safe(int one) {
        if (!isOne(one)) {
            return refuse(BAD);
        }
        return now.isSafe(one) ? 1 : 0;
    }

    // ---- going

    public int go(int one, int road) {
        if (!isOne(one) || !isRoad(road)) {
            return refuse(BAD);
        }
        if (!has(now.leftHere(one), road)) {
            return refuse(STUCK);
        }
        now.goAlong(one, road);
        return now.place[one];
    }

    public int year() {
        now.year++;
        return now.year;
    }

    public int next(int s, int one) {
        if (!isShelf(s) || !isOne(one)) {
            return refuse(BAD);
        }
        int trouble = ruleTrouble(s);
        return trouble == FINE ? Guide.chosen(now, shelves[s], one, 0) : refuse(trouble);
    }

    public int run(int s, int one, int n, int what) {
        if (!isShelf(s) || !isOne(one) || !isBetween(n, 0, RUN) || !isBetween(what, 0, 4)) {
            return refuse(BAD);
        }
        int trouble = ruleTrouble(s);
        if (trouble != FINE) {
            return refuse(trouble);
        }
        trial.become(now);
        int gone = Guide.goBy(trial, shelves[s], one, n);
        switch (what) {
            case 0: return gone;
            case 1: return trial.walked - now.walked;
            case 2: return trial.place[one];
            case 3: return trial.been[one];
            default: return trial.isSafe(one) ? 1 : 0;
        }
    }

    public int head(int one) {
        if (!isOne(one)) {
            return refuse(BAD);
        }
        int best = NONE;
        int most = NONE;
        for (int s = 0; s < SHELVES; s++) {
            if (shelves[s].isRule()) {
                trial.become(now);
                int gone = Guide.goBy(trial, shelves[s], one, RUN);
                if (gone > most) {
                    most = gone;
                    best = s;
                }
            }
        }
        return best == NONE ? refuse(STUCK) : best;
    }

    public int lives(int s, int one, int n) {
        if (!isShelf(s) || !isOne(one) || !isBetween(n, 0, RUN)) {
            return refuse(BAD);
        }
        int trouble = ruleTrouble(s);
        return trouble == FINE ? Guide.goBy(now, shelves[s], one, n) : refuse(trouble);
    }

    public int judge(int one, int s, int n) {
        if (!isOne(one) || !isShelf(s) || !isBetween(n, 0, TOLD)) {
            return refuse(BAD);
        }
        int trouble = stretchTrouble(s, n);
        return trouble == FINE ? firstNotGone(one, shelves[s], n) : refuse(trouble);
    }

    public int told(int one, int s, int n, int what) {
        if (!isOne(one) || !isShelf(s) || !isBetween(n, 0, TOLD) || !isBetween(what, 0, 2)) {
            return refuse(BAD);
        }
        int trouble = stretchTrouble(s, n);
        if (trouble == FINE && firstNotGone(one, shelves[s], n) != NONE) {
            trouble = STUCK;
        }
        if (trouble != FINE) {
            return refuse(trouble);
        }
        switch (what) {
            case 0: return trial.place[one];
            case 1: return trial.walked - now.walked;
            default: return trial.been[one];
        }
    }

    // ---- what can be

    public int law(int one, int what) {
        if (!isOne(one) || !isBetween(what, 0, 3)) {
            return refuse(BAD);
        }
        int roads = now.onceLeftTo(one);
        switch (what) {
            case 0: return Net.oddOf(now, roads);
            case 1: return Net.partsOf(now, roads);
            case 2: return Integer.bitCount(roads);
            default: return Net.milesOf(now, roads);
        }
    }

    public int all(int one) {
        return isOne(one) ? Net.inOneFrom(now, now.place[one], now.onceLeftTo(one)) : refuse(BAD);
    }

    public int way(int one, int i) {
        if (!isOne(one) || !isBetween(i, 0, Integer.bitCount(now.onceLeftTo(one)) - 1)) {
            return refuse(BAD);
        }
        int found = Net.wayFrom(now, now.place[one], now.onceLeftTo(one), i);
        return found == NONE ? refuse(STUCK) : found;
    }

    public int lacks(int one) {
        return isOne(one) ? Net.lacksOf(now, now.onceLeftTo(one)) : refuse(BAD);
    }

    public int longest(int one, int what) {
        if (!isOne(one) || !isBetween(what, Trails.BY_ROADS, Trails.BY_PLACES)) {
            return refuse(BAD);
        }
        int roads = now.onceLeftTo(one);
        if (Integer.bitCount(roads) > TRAIL_ROADS) {
            return refuse(STUCK);
        }
        trails.take(now, roads);
        trails.spread(now.place[one], null, 0);
        return trails.longestBy(what);
    }

    public int errands(int one, int from, int to) {
        if (!isOne(one) || !isPlace(from) || !isPlace(to) || from == to) {
            return refuse(BAD);
        }
        return Net.errandsOf(now, now.onceLeftTo(one), from, to);
    }

    public int cut(int one, int from, int to) {
        if (!isOne(one) || !isPlace(from) || !isPlace(to) || from == to) {
            return refuse(BAD);
        }
        return Net.cutOf(now, now.onceLeftTo(one), from, to);
    }

    public int meets(int one, int s, int n) {
        if (!isOne(one) || !isShelf(s) || !isBetween(n, 0, WANTS)) {
            return refuse(BAD);
        }
        int trouble = stretchTrouble(s, n);
        int roads = now.onceLeftTo(one);
        if (trouble == FINE && Integer.bitCount(roads) > WANT_ROADS) {
            trouble = STUCK;
        }
        if (trouble != FINE) {
            return refuse(trouble);
        }
        trails.take(now, roads);
        trails.spread(now.place[one], shelves[s], n);
        return trails.mostMet();
    }

    public int near(int one, int place) {
        if (!isOne(one) || !isPlace(place)) {
            return refuse(BAD);
        }
        Net.measure(now, now.place[one], now.leftTo(one), milesOfOne);
        return milesOfOne[place] == NONE ? refuse(STUCK) : milesOfOne[place];
    }

    public int together(int one, int other, int what) {
        if (!isOne(one) || !isOne(other) || one == other || !isBetween(what, 0, 2)) {
            return refuse(BAD);
        }
        if (what == 0) {
            return now.reachOf(one) & now.reachOf(other);
        }
        int place = meetingPlace(one, other);
        if (place == NONE) {
            return refuse(STUCK);
        }
        return what == 1 ? milesOfOne[place] + milesOfOther[place] : place;
    }

    public int frees(int one) {
        if (!isOne(one)) {
            return refuse(BAD);
        }
        return now.flood(now.home[one], now.leftTo(one)) & ~(1 << now.place[one]);
    }

    public int send(int one, int road) {
        if (!isOne(one) || !isRoad(road)) {
            return refuse(BAD);
        }
        for (int other = 0; other < now.people; other++) {
            if (other != one && has(now.leftHere(other), road)) {
                return other;
            }
        }
        return NONE;
    }

    public int fast(boolean safe) {
        int found = 0;
        for (int one = 0; one < now.people; one++) {
            boolean fits = safe ? !now.isSafe(one) : now.leftHere(one) == 0;
            if (fits) {
                found |= 1 << one;
            }
        }
        return found;
    }

    public int wander(int one, int n) {
        if (!isOne(one) || !isBetween(n, 1, RUN)) {
            return refuse(BAD);
        }
        for (int gone = 0; gone < n; gone++) {
            int road = now.drawn(now.leftHere(one));
            if (road == NONE) {
                return gone;
            }
            now.goAlong(one, road);
        }
        return n;
    }

    public int seed(int v) {
        int ahead = now.seed;
        now.seed = v;
        return ahead;
    }

    // ---- the whole

    public int image() {
        kept.become(now);
        hasKept = true;
        return 1;
    }

    public int back() {
        if (!hasKept) {
            return refuse(STUCK);
        }
        now.become(kept);
        return 1;
    }

    public int status(int what) {
        switch (what) {
            case 0: return now.roads;
            case 1: return now.people;
            case 2: return now.year;
            case 3: return now.anew;
            case 4: return now.goneInAll();
            case 5: return tape.size;
            case 6: return now.seed;
            case 7: return filledShelves();
            case 8: return Integer.bitCount(now.shutRoads);
            default: return isBetween(what, 12, 16) ? refusals[what - 12] : NONE;
        }
    }

    // ---- looking at arguments

    private int refuse(int code) {
        if (isBetween(code, FULL, BAD)) {
            refusals[BAD - code]++;
        }
        return code;
    }

    private static boolean isBetween(int v, int low, int high) {
        return v >= low && v <= high;
    }

    private static boolean has(int bits, int i) {
        return (bits >> i & 1) != 0;
    }

    private static boolean isShelf(int s) {
        return isBetween(s, 0, SHELVES - 1);
    }

    private static boolean isPlace(int place) {
        return isBetween(place, 0, PLACES - 1);
    }

    private boolean isRoad(int road) {
        return isBetween(road, 0, now.roads - 1);
    }

    private boolean isOne(int one) {
        return isBetween(one, 0, now.people - 1);
    }

    private int rowTrouble(int s) {
        if (shelves[s].isRule()) {
            return OTHER;
        }
        return shelves[s].isEmpty() ? NOTHING : FINE;
    }

    private int ruleTrouble(int s) {
        if (shelves[s].isRow()) {
            return OTHER;
        }
        return shelves[s].isEmpty() ? NOTHING : FINE;
    }

    private int stretchTrouble(int s, int n) {
        int trouble = rowTrouble(s);
        return trouble == FINE && shelves[s].size < n ? BAD : trouble;
    }

    private static int copyTrouble(Shelf source, Shelf target) {
        if (source.isRule() || target.isRule()) {
            return OTHER;
        }
        if (source.isEmpty() || target.isEmpty()) {
            return NOTHING;
        }
        return source.content == target.content ? FINE : OTHER;
    }

    // ---- parts of calls

    /** Leaves the life as far as it can be gone along in the trial land, where BEEN is what was come to in it. */
    private int firstNotGone(int one, Shelf roads, int n) {
        trial.become(now);
        trial.been[one] = 1 << trial.place[one];
        for (int i = 0; i < n; i++) {
            long told = roads.elements[i];
            if (told < 0 || told >= trial.roads || !has(trial.leftHere(one), (int) told)) {
                return i;
            }
            trial.goAlong(one, (int) told);
        }
        return NONE;
    }

    /** Leaves in the two rows how far each of them has to every PLACE. */
    private int meetingPlace(int one, int other) {
        Net.measure(now, now.place[one], now.leftTo(one), milesOfOne);
        Net.measure(now, now.place[other], now.leftTo(other), milesOfOther);
        int best = NONE;
        int least = 0;
        for (int place = 0; place < PLACES; place++) {
            if (milesOfOne[place] != NONE && milesOfOther[place] != NONE) {
                int sum = milesOfOne[place] + milesOfOther[place];
                if (best == NONE || sum < least) {
                    best = place;
                    least = sum;
                }
            }
        }
        return best;
    }

    private int filledShelves() {
        int found = 0;
        for (int s = 0; s < SHELVES; s++) {
            if (!shelves[s].isEmpty()) {
                found++;
            }
        }
        return found;
    }

    /** One SHELF; its row of elements is made once and used for every ROW that it ever holds. */
    private static final class Shelf {
        static final int BYTES = 0;
        static final int SHORTS = 1;
        static final int INTS = 2;
        static final int LONGS = 3;
        static final int BOOLEANS = 4;
        static final int FIRST_RULE = 10;
        static final int MOST_A = 99;

        final long[] elements = new long[ELEMENTS];
        int size;
        int a;
        /** As holds() tells it. */
        int content = NONE;

        boolean isEmpty() {
            return content == NONE;
        }

        boolean isRow() {
            return content >= BYTES && content <= BOOLEANS;
        }

        boolean isRule() {
            return content >= FIRST_RULE;
        }

        int kind() {
            return content - FIRST_RULE;
        }

        boolean hasStretch(int i, int n) {
            return i >= 0 && n >= 0 && i <= size && n <= size - i;
        }

        void becomeRow(int sort, int n) {
            content = sort;
            size = n;
            a = 0;
            Arrays.fill(elements, 0L);
        }

        void becomeRule(int kind, int by) {
            content = FIRST_RULE + kind;
            size = 0;
            a = by;
        }

        void put(int i, long v) {
            switch (content) {
                case BYTES: elements[i] = (byte) v; break;
                case SHORTS: elements[i] = (short) v; break;
                case INTS: elements[i] = (int) v; break;
                case BOOLEANS: elements[i] = v != 0 ? 1 : 0; break;
                default: elements[i] = v; break;
            }
        }
    }

    /** How all stands but for THE TAPE, SHELVES and REFUSALS: what image() keeps. Sets of ROADS and PLACES are bits. */
    private static final class Land {
        final int[] from = new int[ROADS];
        final int[] to = new int[ROADS];
        /** Both PLACES as bits, kept beside them since going through nets asks for them most. */
        final int[] ends = new int[ROADS];
        final int[] miles = new int[ROADS];
        final int[] home = new int[PEOPLE];
        final int[] place = new int[PEOPLE];
        final int[] been = new int[PEOPLE];
        final int[] gone = new int[PEOPLE];
        final int[] when = new int[PEOPLE * ROADS];
        int roads;
        int people;
        int year;
        int anew;
        int seed = 1;
        int shutRoads;
        int roundRoads;
        /** MILES that were ever gone along: a run's own are how much it grows. */
        int walked;

        Land() {
            Arrays.fill(when, NONE);
        }

        void become(Land other) {
            System.arraycopy(other.from, 0, from, 0, ROADS);
            System.arraycopy(other.to, 0, to, 0, ROADS);
            System.arraycopy(other.ends, 0, ends, 0, ROADS);
            System.arraycopy(other.miles, 0, miles, 0, ROADS);
            System.arraycopy(other.home, 0, home, 0, PEOPLE);
            System.arraycopy(other.place, 0, place, 0, PEOPLE);
            System.arraycopy(other.been, 0, been, 0, PEOPLE);
            System.arraycopy(other.gone, 0, gone, 0, PEOPLE);
            System.arraycopy(other.when, 0, when, 0, PEOPLE * ROADS);
            roads = other.roads;
            people = other.people;
            year = other.year;
            anew = other.anew;
            seed = other.seed;
            shutRoads = other.shutRoads;
            roundRoads = other.roundRoads;
            walked = other.walked;
        }

        int build(int a, int b, int length, boolean isRound) {
            int road = roads;
            from[road] = a;
            to[road] = b;
            ends[road] = 1 << a | 1 << b;
            miles[road] = length;
            if (isRound) {
                roundRoads |= 1 << road;
            }
            roads++;
            return road;
        }

        int settle(int at) {
            int one = people;
            home[one] = at;
            people++;
            put(one, at);
            return one;
        }

        void put(int one, int at) {
            place[one] = at;
            been[one] |= 1 << at;
        }

        int lastYear(int one, int road) {
            return when[one * ROADS + road];
        }

        void noteGone(int one, int road) {
            when[one * ROADS + road] = year;
            gone[one]++;
        }

        void goAlong(int one, int road) {
            noteGone(one, road);
            walked += miles[road];
            put(one, otherEnd(road, place[one]));
        }

        int otherEnd(int road, int end) {
            return from[road] == end ? to[road] : from[road];
        }

        private boolean isFresh(int one, int road) {
            int last = lastYear(one, road);
            return last == NONE || anew > 0 && year - last >= anew;
        }

        int leftTo(int one) {
            int found = 0;
            for (int road = 0; road < roads; road++) {
                if (!has(shutRoads, road) && (has(roundRoads, road) || isFresh(one, road))) {
                    found |= 1 << road;
                }
            }
            return found;
        }

        int onceLeftTo(int one) {
            return leftTo(one) & ~roundRoads;
        }

        int roadsAt(int end, int among) {
            int found = 0;
            for (int road = 0; road < roads; road++) {
                if (has(among, road) && has(ends[road], end)) {
                    found |= 1 << road;
                }
            }
            return found;
        }

        int leftHere(int one) {
            return roadsAt(place[one], leftTo(one));
        }

        /** PLACES to which the ROADS among lead from a start, that one, too. */
        int flood(int start, int among) {
            int found = 1 << start;
            boolean grows = true;
            // Each round but the last finds one more PLACE at least.
            for (int round = 0; round < PLACES && grows; round++) {
                int ahead = found;
                for (int road = 0; road < roads; road++) {
                    if ((among >> road & 1) != 0 && (found & ends[road]) != 0) {
                        found |= ends[road];
                    }
                }
                grows = found != ahead;
            }
            return found;
        }

        int reachOf(int one) {
            return flood(place[one], leftTo(one));
        }

        boolean isSafe(int one) {
            return has(reachOf(one), home[one]);
        }

        /** Whether one is SAFE still behind a ROAD at their PLACE, of those that are LEFT to them. */
        boolean isSafeBehind(int one, int road, int left) {
            int usedUp = 1 << road & ~roundRoads;
            return has(flood(otherEnd(road, place[one]), left & ~usedUp), home[one]);
        }

        int goneInAll() {
            int sum = 0;
            for (int one = 0; one < people; one++) {
                sum += gone[one];
            }
            return sum;
        }

        /** One of some ROADS by a DRAW; NONE, without a DRAW, if there are none. */
        int drawn(int among) {
            int count = Integer.bitCount(among);
            if (count == 0) {
                return NONE;
            }
            seed = seed * 1103515245 + 12345;
            int skip = (seed >>> 16) % count;
            for (int road = 0; road < roads; road++) {
                if (has(among, road)) {
                    if (skip == 0) {
                        return road;
                    }
                    skip--;
                }
            }
            return NONE;
        }
    }

    /** What RULES say. */
    private static final class Guide {
        static final int RULE = 0;
        static final int NEAR = 1;
        static final int KEEP = 2;
        static final int NEW = 3;
        static final int FAR = 4;
        static final int HOME = 5;
        static final int LOW = 6;
        /** The KIND above each KIND. */
        private static final int[] ABOVE = {NONE, RULE, NEAR, NEAR, RULE, KEEP, RULE};

        static boolean isUnder(int kind, int top) {
            int k = kind;
            for (int level = 0; level < ABOVE.length; level++) {
                if (k == top) {
                    return true;
                }
                if (k <= RULE || k >= ABOVE.length) {
                    return false;
                }
                k = ABOVE[k];
            }
            return false;
        }

        /** The ROAD that a RULE says for one who has gone along so many by it already. */
        static int chosen(Land land, Shelf rule, int one, int soFar) {
            int roads = land.leftHere(one);
            switch (rule.kind()) {
                case NEAR: return nearest(land, roads);
                case KEEP: return nearestOf(land, keeping(land, one, roads), roads);
                case NEW: return nearestOf(land, toNewPlaces(land, one, roads), roads);
                case FAR: return farthest(land, roads);
                case HOME:
                    if (land.place[one] == land.home[one] && soFar >= rule.a) {
                        return NONE;
                    }
                    return nearestOf(land, keeping(land, one, roads), roads);
                case LOW: return lowest(land, roads);
                default: return NONE;
            }
        }

        static int goBy(Land land, Shelf rule, int one, int n) {
            for (int soFar = 0; soFar < n; soFar++) {
                int road = chosen(land, rule, one, soFar);
                if (road == NONE) {
                    return soFar;
                }
                land.goAlong(one, road);
            }
            return n;
        }

        private static int nearestOf(Land land, int wanted, int others) {
            return nearest(land, wanted != 0 ? wanted : others);
        }

        private static int nearest(Land land, int among) {
            return leastBy(land, among, 1);
        }

        private static int farthest(Land land, int among) {
            return leastBy(land, among, -1);
        }

        private static int leastBy(Land land, int among, int sign) {
            int best = NONE;
            for (int road = 0; road < land.roads; road++) {
                if (has(among, road) && (best == NONE || sign * land.miles[road] < sign * land.miles[best])) {
                    best = road;
                }
            }
            return best;
        }

        private static int lowest(Land land, int among) {
            for (int road = 0; road < land.roads; road++) {
                if (has(among, road)) {
                    return road;
                }
            }
            return NONE;
        }

        private static int keeping(Land land, int one, int among) {
            int left = land.leftTo(one);
            int found = 0;
            for (int road = 0; road < land.roads; road++) {
                if (has(among, road) && land.isSafeBehind(one, road, left)) {
                    found |= 1 << road;
                }
            }
            return found;
        }

        private static int toNewPlaces(Land land, int one, int among) {
            int found = 0;
            for (int road = 0; road < land.roads; road++) {
                int end = land.otherEnd(road, land.place[one]);
                if (has(among, road) && !has(land.been[one], end)) {
                    found |= 1 << road;
                }
            }
            return found;
        }
    }

    /** What can be told of a set of ROADS of the land without trying out lives. */
    private static final class Net {
        static int oddOf(Land land, int roads) {
            int odd = 0;
            for (int road = 0; road < land.roads; road++) {
                if (has(roads, road)) {
                    odd ^= land.ends[road];
                }
            }
            return odd;
        }

        static int milesOf(Land land, int roads) {
            int sum = 0;
            for (int road = 0; road < land.roads; road++) {
                if (has(roads, road)) {
                    sum += land.miles[road];
                }
            }
            return sum;
        }

        private static int endsOfAll(Land land, int roads) {
            int ends = 0;
            for (int road = 0; road < land.roads; road++) {
                if (has(roads, road)) {
                    ends |= land.ends[road];
                }
            }
            return ends;
        }

        static int partsOf(Land land, int roads) {
            return partsWithout(land, 0, roads);
        }

        /** How many PARTS have none of some PLACES. */
        private static int partsWithout(Land land, int places, int roads) {
            int rest = endsOfAll(land, roads);
            int parts = 0;
            for (int place = 0; place < PLACES; place++) {
                if (has(rest, place)) {
                    int part = land.flood(place, roads);
                    rest &= ~part;
                    if ((part & places) == 0) {
                        parts++;
                    }
                }
            }
            return parts;
        }

        /** As all() tells it, of some ROADS from a PLACE. */
        static int inOneFrom(Land land, int place, int roads) {
            if (roads == 0) {
                return 2;
            }
            int ends = endsOfAll(land, roads);
            if (land.flood(place, roads) != ends) {
                return 0;
            }
            int odd = oddOf(land, roads);
            if (odd == 0) {
                return 2;
            }
            return Integer.bitCount(odd) == 2 && has(odd, place) ? 1 : 0;
        }

        /** The ROAD at place i of THE WAY; NONE, if there is no such. */
        static int wayFrom(Land land, int start, int roads, int i) {
            int place = start;
            int rest = roads;
            for (int step = 0; step < ROADS; step++) {
                int road = firstOfWay(land, place, rest);
                if (road == NONE || step == i) {
                    return road;
                }
                rest &= ~(1 << road);
                place = land.otherEnd(road, place);
            }
            return NONE;
        }

        /** The least ROAD behind which all the others can still be gone along in one. */
        private static int firstOfWay(Land land, int place, int roads) {
            int atPlace = land.roadsAt(place, roads);
            for (int road = 0; road < land.roads; road++) {
                int rest = roads & ~(1 << road);
                if (has(atPlace, road) && inOneFrom(land, land.otherEnd(road, place), rest) != 0) {
                    return road;
                }
            }
            return NONE;
        }

        /**
         * To be one round, each of several PARTS needs two new ends at least, or as many as it has ODD PLACES; these
         * are enough, for the PARTS can be laid in a ring. A single PART needs just its ODD PLACES joined.
         */
        static int lacksOf(Land land, int roads) {
            int odd = oddOf(land, roads);
            int joined = Integer.bitCount(odd) / 2;
            return partsOf(land, roads) > 1 ? joined + partsWithout(land, odd, roads) : joined;
        }

        private static int leaving(Land land, int set, int roads) {
            int count = 0;
            for (int road = 0; road < land.roads; road++) {
                if (has(roads, road) && has(set, land.from[road]) != has(set, land.to[road])) {
                    count++;
                }
            }
            return count;
        }

        /** As many ways as the fewest ROADS that part the two PLACES: no more can be, and so many there are. */
        static int errandsOf(Land land, int roads, int start, int goal) {
            return leaving(land, cutOf(land, roads, start, goal), roads);
        }

        static int cutOf(Land land, int roads, int start, int goal) {
            int fewest = ROADS + 1;
            int least = 0;
            // What two such sets have in common is such a set: one of them is in all, and comes ahead of the others.
            for (int set = 0; set < 1 << PLACES; set++) {
                if (has(set, start) && !has(set, goal)) {
                    int count = leaving(land, set, roads);
                    if (count < fewest) {
                        fewest = count;
                        least = set;
                    }
                }
            }
            return least;
        }

        /** Puts the fewest MILES to every PLACE into a row; NONE where the ROADS don't lead. */
        static void measure(Land land, int start, int roads, int[] row) {
            Arrays.fill(row, NONE);
            row[start] = 0;
            boolean better = true;
            for (int round = 0; round < PLACES && better; round++) {
                better = false;
                for (int road = 0; road < land.roads; road++) {
                    if (has(roads, road)) {
                        int a = land.from[road];
                        int b = land.to[road];
                        better |= shorten(row, a, b, land.miles[road]);
                        better |= shorten(row, b, a, land.miles[road]);
                    }
                }
            }
        }

        private static boolean shorten(int[] row, int a, int b, int miles) {
            if (row[a] == NONE || row[b] != NONE && row[b] <= row[a] + miles) {
                return false;
            }
            row[b] = row[a] + miles;
            return true;
        }
    }

    /**
     * All lives by some ROADS, each once, from a PLACE. Which ROADS were gone along tells where one is then (by which
     * PLACES are ODD), so that one number for each set of ROADS is enough, not one for each order of them.
     */
    private static final class Trails {
        static final int BY_ROADS = 0;
        static final int BY_MILES = 1;
        static final int BY_PLACES = 2;

        private final int[] ends = new int[TRAIL_ROADS];
        private final int[] miles = new int[TRAIL_ROADS];
        /** A ROAD's two PLACES added up: less the one, it is the other. */
        private final int[] sums = new int[TRAIL_ROADS];
        private final int[] roadsAt = new int[PLACES];
        private int count;
        private int start;
        /** For each set of ROADS: wants met at most, times PLACES, and the PLACE at the end; NONE: no life goes so. */
        private final int[] table = new int[1 << TRAIL_ROADS];

        void take(Land land, int among) {
            count = 0;
            Arrays.fill(roadsAt, 0);
            for (int road = 0; road < land.roads && count < TRAIL_ROADS; road++) {
                if (has(among, road)) {
                    ends[count] = land.ends[road];
                    miles[count] = land.miles[road];
                    sums[count] = land.from[road] + land.to[road];
                    roadsAt[land.from[road]] |= 1 << count;
                    roadsAt[land.to[road]] |= 1 << count;
                    count++;
                }
            }
        }

        void spread(int from, Shelf wants, int n) {
            start = from;
            int sets = 1 << count;
            Arrays.fill(table, 0, sets, NONE);
            table[0] = metAt(from, 0, wants, n) * PLACES + from;
            // A life's sets grow: what leads to a set has come by ahead of it.
            for (int set = 0; set < sets; set++) {
                if (table[set] != NONE) {
                    spreadFrom(set, wants, n);
                }
            }
        }

        private void spreadFrom(int set, Shelf wants, int n) {
            int met = table[set] / PLACES;
            int place = table[set] % PLACES;
            int fresh = roadsAt[place] & ~set;
            for (int i = 0; i < count; i++) {
                if ((fresh >> i & 1) != 0) {
                    int end = sums[i] - place;
                    int life = metAt(end, met, wants, n) * PLACES + end;
                    int further = set | 1 << i;
                    table[further] = Math.max(table[further], life);
                }
            }
        }

        /** How many wants are met at a PLACE by one who has met so many of them. */
        private static int metAt(int place, int soFar, Shelf wants, int n) {
            int met = soFar;
            while (met < n && wants != null && wants.elements[met] == place) {
                met++;
            }
            return met;
        }

        int longestBy(int what) {
            int most = 0;
            for (int set = 0; set < 1 << count; set++) {
                if (table[set] != NONE) {
                    most = Math.max(most, lengthOf(set, what));
                }
            }
            return most;
        }

        private int lengthOf(int set, int what) {
            if (what == BY_ROADS) {
                return Integer.bitCount(set);
            }
            int sum = 0;
            int places = 1 << start;
            for (int i = 0; i < count; i++) {
                if (has(set, i)) {
                    sum += miles[i];
                    places |= ends[i];
                }
            }
            return what == BY_MILES ? sum : Integer.bitCount(places);
        }

        int mostMet() {
            int most = 0;
            for (int set = 0; set < 1 << count; set++) {
                if (table[set] != NONE) {
                    most = Math.max(most, table[set] / PLACES);
                }
            }
            return most;
        }
    }

    /** THE TAPE, and reading it as a LAND. */
    private static final class Tape {
        private static final int END = 0;
        private static final int WORD = 1;
        private static final int NUMBER = 2;
        private static final int SIGN = 3;
        private static final int STRANGE = 4;

        private final int[] bytes = new int[TAPE];
        int size;
        /** The place of the first TOKEN that can't stand where it does; NONE: there was none. */
        int fault = NONE;
        private int sort;
        private int start;
        private int end;

        void append(int v, int n) {
            for (int i = n - 1; i >= 0 && size < TAPE; i--) {
                bytes[size] = v >> 8 * i & 255;
                size++;
            }
        }

        /** How many STATEMENTS there were, if there is no fault; the land may be half changed, if there is one. */
        int readOnto(Land land) {
            fault = NONE;
            end = 0;
            advance();
            int statements = 0;
            boolean more = true;
            // A STATEMENT has more than one byte: there are fewer of them than bytes.
            for (int i = 0; i < TAPE && more; i++) {
                readStatement(land);
                statements++;
                more = fault == NONE && sort == SIGN;
                if (more) {
                    advance();
                }
            }
            if (sort != END) {
                stopHere();
            }
            return statements;
        }

        private void readStatement(Land land) {
            if (takes("road", land.roads < ROADS)) {
                readRoad(land);
            } else if (takes("one", land.people < PEOPLE)) {
                readOne(land);
            } else if (takes("gone", true)) {
                readGone(land);
            } else if (takes("at", true)) {
                readAt(land);
            } else if (takes("anew", true)) {
                readAnew(land);
            } else if (takes("shut", true)) {
                readShut(land);
            } else {
                stopHere();
            }
        }

        private void readRoad(Land land) {
            int a = takeNumber(0, PLACES - 1, NONE);
            int b = takeNumber(0, PLACES - 1, a);
            if (!takes("miles", true)) {
                stopHere();
            }
            int miles = takeNumber(1, MILES, NONE);
            boolean round = takes("round", true);
            if (fault == NONE) {
                land.build(a, b, miles, round);
            }
        }

        private void readOne(Land land) {
            int home = takeNumber(0, PLACES - 1, NONE);
            if (fault == NONE) {
                land.settle(home);
            }
        }

        private void readGone(Land land) {
            int one = takeNumber(0, land.people - 1, NONE);
            int road = takeNumber(0, land.roads - 1, NONE);
            if (fault == NONE) {
                land.noteGone(one, road);
            }
        }

        private void readAt(Land land) {
            int one = takeNumber(0, land.people - 1, NONE);
            int place = takeNumber(0, PLACES - 1, NONE);
            if (fault == NONE) {
                land.put(one, place);
            }
        }

        private void readAnew(Land land) {
            int years = takeNumber(0, ANEW, NONE);
            if (fault == NONE) {
                land.anew = years;
            }
        }

        private void readShut(Land land) {
            int road = takeNumber(0, land.roads - 1, NONE);
            if (fault == NONE) {
                land.shutRoads |= 1 << road;
            }
        }

        /** The first fault stays: what is read behind it counts for nothing. */
        private void stopHere() {
            if (fault == NONE) {
                fault = start;
            }
        }

        /** Goes on behind a word, if it stands here and may. */
        private boolean takes(String word, boolean may) {
            if (fault != NONE || !may || sort != WORD || end - start != word.length()) {
                return false;
            }
            for (int i = 0; i < word.length(); i++) {
                if (bytes[start + i] != word.charAt(i)) {
                    return false;
                }
            }
            advance();
            return true;
        }

        /** Goes on behind a number of one or two digits, low to high, that isn't but; else NONE, and a fault. */
        private int takeNumber(int low, int high, int but) {
            int v = numberHere();
            if (fault != NONE || v < low || v > high || v == but) {
                stopHere();
                return NONE;
            }
            advance();
            return v;
        }

        private int numberHere() {
            if (sort != NUMBER || end - start > 2) {
                return NONE;
            }
            int v = 0;
            for (int i = start; i < end; i++) {
                v = v * 10 + bytes[i] - '0';
            }
            return v;
        }

        private void advance() {
            start = end;
            while (start < size && bytes[start] == ' ') {
                start++;
            }
            end = start;
            sort = sortAt(start);
            if (sort == SIGN || sort == STRANGE) {
                end++;
            }
            while ((sort == WORD || sort == NUMBER) && end < size && sortAt(end) == sort) {
                end++;
            }
        }

        private int sortAt(int i) {
            if (i < 0 || i >= size) {
                return END;
            }
            int b = bytes[i];
            if (b >= 'a' && b <= 'z') {
                return WORD;
            }
            if (b >= '0' && b <= '9') {
                return NUMBER;
            }
            return b == ';' ? SIGN : STRANGE;
        }
    }
}
