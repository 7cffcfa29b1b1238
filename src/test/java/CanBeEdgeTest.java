import java.util.function.Supplier;

/** Promises 31 to 44, sentence by sentence: the boundaries of what can be. */
public final class CanBeEdgeTest {
    private static final Edges edges = new Edges();
    private static final Supplier<EachRoadOnce> EMPTY = Edges::empty;
    private static final Supplier<EachRoadOnce> RICH = Edges::rich;
    private static final Supplier<EachRoadOnce> FULL = Edges::full;

    public static void main(String[] args) {
        law();
        roundOnesAside();
        all();
        way();
        lacks();
        longest();
        longestTwelve();
        errands();
        cut();
        meets();
        meetsTen();
        meetsOrder();
        near();
        together();
        frees();
        send();
        fast();
        wander();
        draws();
        edges.end("CanBeEdgeTest", 31, 32, 33, 34, 35, 36, 37, 38, 39, 40, 41, 42, 43, 44);
    }

    private static Supplier<EachRoadOnce> land(String text) {
        return () -> Check.read(text);
    }

    /** So many ROADS that aren't ROUND between 0 and 1, and others that count for nothing: ROUND, shut, gone along. */
    private static Supplier<EachRoadOnce> many(int once) {
        return () -> {
            EachRoadOnce x = new EachRoadOnce();
            x.one(0);
            for (int i = 0; i < once; i++) {
                x.road(i % 2, 1 - i % 2, 60, false);
            }
            if (once < 14) {
                x.road(0, 2, 1, true);
                x.road(0, 3, 1, false);
                x.road(0, 4, 1, false);
                x.shut(once + 1, true);
                Check.landOf(x, "gone 0 " + (once + 2));
            }
            Check.fill(x, 0, 0, 1, 0, 1, 0, 1, 0, 1, 0);
            return x;
        };
    }

    private static void law() {
        edges.of(31, "ODD (bits; what 0), how many PARTS (1), how many such ROADS (2), their MILES (3). BAD.");
        int[] full = {0x60, 1, 12, 654};
        edges.range("what", FULL, v -> x -> x.law(5, v), 0, 3, v -> full[v]);
        edges.range("what of no ROADS", land("one 0"), v -> x -> x.law(0, v), 0, 3, v -> 0);
        edges.range("one", FULL, v -> x -> x.law(v, 3), 0, 5, v -> 654);
        edges.range("one of two", RICH, v -> x -> x.law(v, 2), 0, 1, v -> v + 1);
        edges.refused("one 0 where there are none", EMPTY, x -> x.law(0, 0), Check.BAD);
        int[] most = {0, 1, 16, 960};
        for (int what = 0; what <= 3; what++) {
            int w = what;
            edges.asks("sixteen of sixty MILES, " + what, many(16), x -> x.law(0, w), most[what]);
        }
        edges.of(31, "ODD: PLACES at which an odd number of these ROADS end.");
        for (int n = 0; n <= 5; n++) {
            edges.asks(n + " ROADS between 0 and 1", many(n), x -> x.law(0, 0), n % 2 == 0 ? 0 : 3);
        }
        edges.asks("all PLACES", land("road 0 1 miles 1;road 2 3 miles 1;road 4 5 miles 1;road 6 7 miles 1;one 0"), x -> x.law(0, 0), 255);
        edges.of(31, "PARTS: sets of PLACES that these ROADS hold together, without those at which none ends.");
        edges.asks("none", land("road 0 1 miles 1 round;one 0"), x -> x.law(0, 1), 0);
        edges.asks("one", land("road 0 1 miles 1;one 5"), x -> x.law(0, 1), 1);
        edges.asks("four", land("road 0 1 miles 1;road 2 3 miles 1;road 4 5 miles 1;road 6 7 miles 1;one 0"), x -> x.law(0, 1), 4);
        edges.asks("joined from behind", land("road 0 1 miles 1;road 6 7 miles 1;road 3 6 miles 1;road 3 1 miles 1;one 0"), x -> x.law(0, 1), 1);
        edges.asks("joined by a ROUND one alone: two", land("road 0 1 miles 1;road 1 2 miles 1 round;road 2 3 miles 1;one 0"), x -> x.law(0, 1), 2);
    }

    private static void roundOnesAside() {
        edges.of(31, "(of ROADS LEFT to one that aren't ROUND; ROUND ones aside)");
        String text = "road 0 1 miles 1;road 1 2 miles 2 round;road 2 3 miles 4;road 3 4 miles 8;one 0;one 0;gone 0 2;shut 3;anew 1";
        edges.asks("neither ROUND, gone along nor shut", land(text), x -> x.law(0, 3), 1);
        edges.asks("for another one", land(text), x -> x.law(1, 3), 5);
        edges.fine("ANEW", land(text), x -> x.year() == 1 ? x.law(0, 3) : Check.BAD, 5);
        edges.fine("opened", land(text), x -> x.shut(3, false) == 1 ? x.law(0, 3) : Check.BAD, 9);
        edges.of(32, "ROUND ones aside");
        edges.asks("in one but for what a ROUND one joins", land("road 0 1 miles 1;road 1 2 miles 1 round;road 2 3 miles 1;one 0"), x -> x.all(0), 0);
        edges.of(36, "ROUND ones aside");
        edges.asks("not by ROUND ones", land("road 0 1 miles 1 round;road 0 1 miles 1;one 0"), x -> x.errands(0, 0, 1), 1);
    }

    private static void all() {
        edges.of(32, "ALL IN ONE: 2 if A ROUND, 1 if it is just in one, 0 if not (no such ROADS: 2). BAD.");
        edges.range("one", FULL, v -> x -> x.all(v), 0, 5, v -> 0);
        edges.range("one of two", RICH, v -> x -> x.all(v), 0, 1, v -> 1);
        edges.refused("one 0 where there are none", EMPTY, x -> x.all(0), Check.BAD);
        edges.asks("no ROADS", land("one 4"), x -> x.all(0), 2);
        edges.asks("none that isn't ROUND", land("road 0 1 miles 1 round;one 4"), x -> x.all(0), 2);
        edges.asks("none that isn't gone along", land("road 0 1 miles 1;one 4;gone 0 0"), x -> x.all(0), 2);
        edges.asks("none that isn't shut", land("road 0 1 miles 1;one 4;shut 0"), x -> x.all(0), 2);
        edges.asks("one from its end", land("road 0 1 miles 1;one 1"), x -> x.all(0), 1);
        edges.asks("one from elsewhere", land("road 0 1 miles 1;one 2"), x -> x.all(0), 0);
        edges.asks("two and back", land("road 0 1 miles 1;road 1 0 miles 1;one 1"), x -> x.all(0), 2);
        edges.asks("two and back from elsewhere", land("road 0 1 miles 1;road 1 0 miles 1;one 2"), x -> x.all(0), 0);
        edges.asks("from the middle of two", land("road 0 1 miles 1;road 1 2 miles 1;one 1"), x -> x.all(0), 0);
        edges.asks("four ODD PLACES", land("road 0 1 miles 1;road 0 2 miles 1;road 0 3 miles 1;one 0"), x -> x.all(0), 0);
        edges.asks("two rounds apart", land("road 0 1 miles 1;road 0 1 miles 1;road 2 3 miles 1;road 2 3 miles 1;one 0"), x -> x.all(0), 0);
        edges.asks("two ODD PLACES, a round apart", land("road 0 1 miles 1;road 2 3 miles 1;road 2 3 miles 1;one 0"), x -> x.all(0), 0);
        edges.asks("sixteen", many(16), x -> x.all(0), 2);
        edges.asks("fifteen", many(15), x -> x.all(0), 1);
        edges.of(32, "ALL IN ONE: whether one can go along all of them one behind the other from where they are; A ROUND: and be there again.");
        edges.asks("not from HOME", land("road 0 1 miles 1;one 0;at 0 2"), x -> x.all(0), 0);
        edges.asks("HOME elsewhere", land("road 0 1 miles 1;one 5;at 0 1"), x -> x.all(0), 1);
    }

    private static void way() {
        edges.of(33, "The i-th ROAD of THE WAY. BAD: also no such place; STUCK: they can't.");
        edges.range("i of sixteen", many(16), v -> x -> x.way(0, v), 0, 15, v -> v);
        edges.range("i of fifteen", many(15), v -> x -> x.way(0, v), 0, 14, v -> v);
        edges.range("i of one", land("road 0 1 miles 1;one 1"), v -> x -> x.way(0, v), 0, 0, v -> 0);
        edges.range("i of three, others aside", many(3), v -> x -> x.way(0, v), 0, 2, v -> v);
        edges.outside("i of none", land("one 1"), v -> x -> x.way(0, v), 0, -1);
        edges.refused("the first of none", land("road 0 1 miles 1 round;one 1"), x -> x.way(0, 0), Check.BAD);
        edges.range("one", land("road 0 1 miles 1;one 1;one 0"), v -> x -> x.way(v, 0), 0, 1, v -> 0);
        edges.refused("one 0 where there are none", EMPTY, x -> x.way(0, 0), Check.BAD);
        Supplier<EachRoadOnce> cant = land("road 0 1 miles 1;road 2 3 miles 1;one 0");
        edges.refused("the first of what can't be", cant, x -> x.way(0, 0), Check.STUCK);
        edges.refused("the last of what can't be", cant, x -> x.way(0, 1), Check.STUCK);
        edges.outside("i ahead of STUCK", cant, v -> x -> x.way(0, v), 0, 1);
        edges.refused("BAD one ahead of STUCK", cant, x -> x.way(1, 0), Check.BAD);
        edges.asks("nothing changes", many(3), x -> x.way(0, 2), 2);
        edges.of(33, "THE WAY: of all such rows (to a round, if there is one) the first, by numbers.");
        Supplier<EachRoadOnce> threes = land("road 1 2 miles 1;road 2 0 miles 1;road 0 1 miles 1;one 2;one 1;one 0;gone 0 0;gone 1 1;gone 2 1");
        edges.asks("from 2: by 1", threes, x -> x.way(0, 0), 1);
        edges.asks("from 2: then 2", threes, x -> x.way(0, 1), 2);
        edges.refused("from 1: in the middle", threes, x -> x.way(1, 0), Check.STUCK);
        edges.refused("from 0: elsewhere no more", land("road 1 2 miles 1;one 0"), x -> x.way(0, 0), Check.STUCK);
        Supplier<EachRoadOnce> ring = land("road 1 2 miles 1;road 2 0 miles 1;road 0 1 miles 1;one 2;one 1;one 0");
        int[][] rounds = {{0, 2, 1}, {0, 1, 2}, {1, 0, 2}};
        for (int one = 0; one < 3; one++) {
            int o = one;
            edges.range("a round of one " + one, ring, v -> x -> x.way(o, v), 0, 2, v -> rounds[o][v]);
        }
    }

    private static void lacks() {
        edges.of(34, "LACKS (0, if there are no such ROADS). BAD.");
        edges.range("one", FULL, v -> x -> x.lacks(v), 0, 5, v -> 1);
        edges.refused("one 0 where there are none", EMPTY, x -> x.lacks(0), Check.BAD);
        edges.asks("no ROADS", land("one 7"), x -> x.lacks(0), 0);
        edges.asks("none that isn't ROUND", land("road 0 1 miles 1 round;one 7"), x -> x.lacks(0), 0);
        edges.of(34, "LACKS: the fewest ROADS to be built so that all of them, with these, could be gone along in a round from some PLACE.");
        for (int n = 1; n <= 16; n++) {
            edges.asks(n + " between two PLACES", many(n), x -> x.lacks(0), n % 2);
        }
        String[] single = {"road 0 1 miles 1", "road 2 3 miles 1", "road 4 5 miles 1", "road 6 7 miles 1"};
        String[] twice = {"road 0 1 miles 1;road 1 0 miles 1", "road 2 3 miles 1;road 2 3 miles 1", "road 4 5 miles 1;road 5 4 miles 1", "road 6 7 miles 1;road 6 7 miles 1"};
        for (int odd = 0; odd <= 4; odd++) {
            for (int even = 0; odd + even <= 4; even++) {
                StringBuilder text = new StringBuilder("one 3");
                for (int i = 0; i < odd + even; i++) {
                    text.append(';').append(i < odd ? single[i] : twice[i]);
                }
                int parts = odd + even;
                int want = parts == 1 && even == 1 ? 0 : parts;
                edges.asks(odd + " single ROADS, " + even + " rounds apart", land(text.toString()), x -> x.lacks(0), want);
            }
        }
        String star = "one 0;road 0 1 miles 1;road 0 2 miles 1;road 0 3 miles 1;road 0 4 miles 1;road 0 5 miles 1;road 0 6 miles 1;road 0 7 miles 1";
        edges.asks("eight ODD PLACES", land(star), x -> x.lacks(0), 4);
        edges.asks("from some PLACE, not from where one is", land("road 0 1 miles 1;road 0 1 miles 1;one 5"), x -> x.lacks(0), 0);
    }

    private static void longest() {
        edges.of(35, "the most ROADS (what 0), the most MILES (1), the most PLACES come to, that one, too (2)");
        int[] full = {11, 600, 7};
        edges.range("what", FULL, v -> x -> x.longest(0, v), 0, 2, v -> full[v]);
        int[] none = {0, 0, 1};
        edges.range("what of no ROADS", land("one 7"), v -> x -> x.longest(0, v), 0, 2, v -> none[v]);
        edges.range("what of ROADS elsewhere", land("road 0 1 miles 1;one 7"), v -> x -> x.longest(0, v), 0, 2, v -> none[v]);
        edges.range("what of ROUND ones", land("road 0 7 miles 1 round;one 7"), v -> x -> x.longest(0, v), 0, 2, v -> none[v]);
        int[] single = {1, 60, 2};
        edges.range("what of one", land("road 0 7 miles 60;one 7"), v -> x -> x.longest(0, v), 0, 2, v -> single[v]);
        edges.range("one", FULL, v -> x -> x.longest(v, 0), 0, 5, v -> 11);
        edges.refused("one 0 where there are none", EMPTY, x -> x.longest(0, 0), Check.BAD);
        edges.of(35, "LONGEST: of all rows of them that can be gone along from where they are");
        Supplier<EachRoadOnce> fork = land("road 0 1 miles 60;road 0 2 miles 1;road 2 3 miles 1;road 3 4 miles 1;road 0 5 miles 9;road 5 0 miles 9;one 0");
        int[] want = {5, 78, 5};
        edges.range("what at a fork", fork, v -> x -> x.longest(0, v), 0, 2, v -> want[v]);
        String line = "road 0 1 miles 1;road 1 2 miles 1;road 2 3 miles 1;road 3 4 miles 1;road 4 5 miles 1;road 5 6 miles 1;road 6 7 miles 1";
        int[] whole = {7, 7, 8};
        edges.range("what of a line", land(line + ";one 7"), v -> x -> x.longest(0, v), 0, 2, v -> whole[v]);
        int[] middle = {4, 4, 5};
        edges.range("what from its middle", land(line + ";one 3"), v -> x -> x.longest(0, v), 0, 2, v -> middle[v]);
        for (int what = 0; what <= 2; what++) {
            int w = what;
            edges.asks("nothing changes, what " + what, fork, x -> x.longest(0, w), want[what]);
        }
    }

    private static void longestTwelve() {
        edges.of(35, "(12 such ROADS at most.)");
        for (int n = 0; n <= 16; n++) {
            int roads = n;
            if (n <= 12) {
                edges.asks(n + ", the most ROADS", many(n), x -> x.longest(0, 0), n);
                edges.asks(n + ", the most MILES", many(n), x -> x.longest(0, 1), 60L * n);
                edges.asks(n + ", the most PLACES", many(n), x -> x.longest(0, 2), Math.min(n, 1) + 1);
            } else {
                edges.of(35, "LONGEST. BAD; STUCK: more than 12 such ROADS.");
                for (int what = 0; what <= 2; what++) {
                    int w = what;
                    edges.refused(roads + ", what " + what, many(n), x -> x.longest(0, w), Check.STUCK);
                }
                edges.outside(roads + ", what ahead of STUCK", many(n), v -> x -> x.longest(0, v), 0, 2);
                edges.refused(roads + ", BAD one ahead of STUCK", many(n), x -> x.longest(1, 0), Check.BAD);
            }
        }
        edges.fine("thirteen, one of them gone along", many(13), x -> x.go(0, 0) == 1 ? x.longest(0, 0) : Check.BAD, 12);
        edges.fine("thirteen, one of them shut", many(13), x -> x.shut(0, true) == 1 ? x.longest(0, 0) : Check.BAD, 12);
        edges.refused("thirteen, some out of REACH", land("one 0;" + "road2 3miles1;".repeat(12) + "road4 5miles1"), x -> x.longest(0, 0), Check.STUCK);
    }

    private static void errands() {
        edges.of(36, "ERRANDS for one from a PLACE to another. BAD: also to itself.");
        edges.range("one", FULL, v -> x -> x.errands(v, 0, 7), 0, 5, v -> 2);
        // Behind the last PLACE that isn't the other one comes that one itself: it is BAD, too.
        edges.range("from", FULL, v -> x -> x.errands(0, v, 7), 0, 6, v -> v < 5 ? 2 : 1);
        edges.range("to", FULL, v -> x -> x.errands(0, 7, v), 0, 6, v -> v < 5 ? 2 : 1);
        edges.range("from, to 0", FULL, v -> x -> x.errands(0, v, 0), 1, 7, v -> v < 5 || v == 7 ? 2 : 1);
        edges.outside("from", FULL, v -> x -> x.errands(0, v, 3), 0, 7);
        edges.outside("to", FULL, v -> x -> x.errands(0, 3, v), 0, 7);
        edges.refused("one 0 where there are none", EMPTY, x -> x.errands(0, 0, 1), Check.BAD);
        for (int a = 0; a < 8; a++) {
            int p = a;
            edges.refused("to itself, " + a, FULL, x -> x.errands(0, p, p), Check.BAD);
        }
        edges.of(36, "ERRANDS from A to B: how many ways from A to B there are of which no two have a ROAD");
        for (int n = 0; n <= 16; n++) {
            edges.asks(n + " ROADS side by side", many(n), x -> x.errands(0, 0, 1), n);
            edges.asks(n + " ROADS side by side, turned", many(n), x -> x.errands(0, 1, 0), n);
        }
        edges.asks("none: 0 isn't refused", land("one 0"), x -> x.errands(0, 7, 0), 0);
        edges.asks("the narrowest", land("one 0;road 0 1 miles 1;road 0 1 miles 1;road 1 2 miles 1;road 2 3 miles 1;road 2 3 miles 1"), x -> x.errands(0, 0, 3), 1);
        edges.asks("across", land("one 0;road 0 1 miles 1;road 0 2 miles 1;road 1 2 miles 1;road 1 3 miles 1;road 2 3 miles 1"), x -> x.errands(0, 0, 3), 2);
        edges.asks("a ROAD turned back in one way", land("one 0;road 0 1 miles 1;road 1 2 miles 1;road 2 7 miles 1;road 0 4 miles 1;road 4 2 miles 1;road 1 5 miles 1;road 5 7 miles 1"),
            x -> x.errands(0, 0, 7), 2);
    }

    private static void cut() {
        edges.of(37, "CUT (bits). BAD likewise.");
        edges.range("one", FULL, v -> x -> x.cut(v, 0, 7), 0, 5, v -> 1);
        edges.range("from", FULL, v -> x -> x.cut(0, v, 7), 0, 6, v -> 1 << v);
        edges.range("to", FULL, v -> x -> x.cut(0, 7, v), 0, 6, v -> 255 & ~(1 << v));
        edges.range("from, to 0", FULL, v -> x -> x.cut(0, v, 0), 1, 7, v -> v == 7 ? 254 : 1 << v);
        edges.outside("from", FULL, v -> x -> x.cut(0, v, 3), 0, 7);
        edges.outside("to", FULL, v -> x -> x.cut(0, 3, v), 0, 7);
        edges.refused("one 0 where there are none", EMPTY, x -> x.cut(0, 0, 1), Check.BAD);
        for (int a = 0; a < 8; a++) {
            int p = a;
            edges.refused("to itself, " + a, FULL, x -> x.cut(0, p, p), Check.BAD);
        }
        edges.of(37, "CUT: of all sets of PLACES with A, without B, that just so many of these ROADS leave (one end in it, one not), the least");
        edges.asks("A alone, without ROADS", land("one 0"), x -> x.cut(0, 7, 0), 128);
        edges.asks("A alone, without ROADS", land("one 0"), x -> x.cut(0, 0, 7), 1);
        String line = "one 0;road 0 1 miles 1;road 1 2 miles 1;road 2 3 miles 1";
        edges.asks("A alone, though others are as few", land(line), x -> x.cut(0, 0, 3), 1);
        edges.asks("A alone from the other end", land(line), x -> x.cut(0, 3, 0), 8);
        edges.asks("all but B", land("one 0;road 0 1 miles 1;road 1 0 miles 1;road 2 1 miles 1;road 2 1 miles 1;road 2 3 miles 1"), x -> x.cut(0, 0, 3), 7);
        edges.asks("B in another part", land(line + ";road 5 6 miles 1"), x -> x.cut(0, 1, 6), 15);
        edges.asks("seven PLACES", land("one 0;road0 1miles1;road0 1miles1;road1 2miles1;road1 2miles1;road2 3miles1;road2 3miles1;road3 4miles1;road3 4miles1;"
            + "road4 5miles1;road4 5miles1;road5 6miles1;road5 6miles1;road6 7miles1"), x -> x.cut(0, 0, 7), 127);
        edges.asks("nothing changes", FULL, x -> x.cut(0, 7, 0), 254);
        edges.of(37, "the least (its PLACES are in all such sets)");
        int[][] roads = {{0, 1}, {1, 2}, {0, 2}, {2, 3}, {3, 4}, {3, 5}, {4, 5}, {5, 6}, {6, 4}};
        EachRoadOnce x = new EachRoadOnce();
        x.one(0);
        for (int[] road : roads) {
            x.road(road[0], road[1], 1, false);
        }
        for (int a = 0; a < 8; a++) {
            for (int b = 0; b < 8; b++) {
                if (a != b) {
                    edges.due("from " + a + " to " + b, x.cut(0, a, b), inAllSuchSets(roads, a, b));
                }
            }
        }
    }

    /** What is common to all sets with a, without b, that the fewest ROADS leave. */
    private static int inAllSuchSets(int[][] roads, int a, int b) {
        int fewest = roads.length + 1;
        int common = 0;
        for (int set = 0; set < 256; set++) {
            if ((set >> a & 1) == 1 && (set >> b & 1) == 0) {
                int leaving = 0;
                for (int[] road : roads) {
                    leaving += (set >> road[0] & 1) != (set >> road[1] & 1) ? 1 : 0;
                }
                common = leaving < fewest ? set : leaving == fewest ? common & set : common;
                fewest = Math.min(fewest, leaving);
            }
        }
        return common;
    }

    private static void meets() {
        edges.of(38, "MEETS: of a row of wants (PLACES, 8 at most) the greatest number k such that one can go to the first k of them in this order, from where they are");
        edges.range("n", many(10), v -> x -> x.meets(0, 0, v), 0, 8, v -> v);
        edges.range("n of one ROAD", many(1), v -> x -> x.meets(0, 0, v), 0, 8, v -> Math.min(v, 1));
        edges.range("n of three ROADS", many(3), v -> x -> x.meets(0, 0, v), 0, 8, v -> Math.min(v, 3));
        edges.range("n of no ROADS", many(0), v -> x -> x.meets(0, 0, v), 0, 8, v -> 0);
        edges.of(38, "MEETS of the first n elements (0 to 8) of the ROW in SHELF s");
        for (int s = 0; s < 8; s++) {
            int shelf = s;
            edges.asks("SHELF " + s, () -> {
                EachRoadOnce x = Check.read("road 4 5 miles 1;one 4");
                x.row(shelf, 1, 40);
                x.set(shelf, 0, 4);
                x.set(shelf, 1, 5);
                return x;
            }, x -> x.meets(0, shelf, 8), 2);
        }
        edges.of(38, "(a want is met where one is; a ROAD but once)");
        wants("where one is", 1, "one 4", 4);
        wants("where one is, time and again", 8, "one 4", 4, 4, 4, 4, 4, 4, 4, 4);
        wants("where one is, then elsewhere", 2, "road 4 5 miles 1;one 4", 4, 5, 4);
        wants("elsewhere time and again", 3, "road 4 5 miles 1;one 4", 5, 5, 5, 4);
        wants("there and back by two", 3, "road 4 5 miles 1;road 4 5 miles 1;one 4", 5, 5, 4, 5);
        wants("not by a ROUND one", 0, "road 4 5 miles 1 round;one 4", 5);
        wants("past others", 2, "road 0 1 miles 1;road 1 2 miles 1;road 2 3 miles 1;one 0", 0, 3);
        wants("not the way that is first by numbers", 3, "road 0 1 miles 1;road 1 2 miles 1;road 2 0 miles 1;one 0", 2, 1, 0);
        edges.of(38, "(one that is no PLACE can't be met)");
        wants("8", 1, "one 4", 4, 8);
        wants("-1", 1, "one 4", 4, -1, 4);
        wants("12, of which the lowest bits are 4", 0, "one 4", 12);
        wants("what is 4 as an int", 0, "one 4", (1L << 32) + 4);
        wants("the least long", 0, "one 0", Long.MIN_VALUE);
        wants("0, the first PLACE", 1, "one 0", 0);
        wants("7, the last PLACE", 1, "one 7", 7);
    }

    private static void wants(String name, int met, String text, long... places) {
        Supplier<EachRoadOnce> made = () -> {
            EachRoadOnce x = Check.read(text);
            Check.fill(x, 7, 3, places);
            return x;
        };
        edges.asks(name, made, x -> x.meets(0, 7, places.length), met);
    }

    private static void meetsTen() {
        edges.of(38, "(10 such ROADS at most.)");
        for (int n = 0; n <= 16; n++) {
            if (n <= 10) {
                edges.asks(n + " such ROADS", many(n), x -> x.meets(0, 0, 8), Math.min(n, 8));
            } else {
                edges.refused(n + " such ROADS", many(n), x -> x.meets(0, 0, 8), Check.STUCK);
                edges.refused(n + " such ROADS, no wants", many(n), x -> x.meets(0, 0, 0), Check.STUCK);
            }
        }
        edges.fine("eleven, one of them gone along", many(11), x -> x.go(0, 0) == 1 ? x.meets(0, 0, 8) : Check.BAD, 8);
        edges.fine("eleven, one of them shut", many(11), x -> x.shut(0, true) == 1 ? x.meets(0, 0, 8) : Check.BAD, 8);
        edges.asks("ten with all eight wants", many(10), x -> x.meets(0, 0, 8), 8);
    }

    private static void meetsOrder() {
        edges.of(38, "BAD ONE, SHELF, n; OTHER; NOTHING; BAD: fewer elements; STUCK: more than 10 such ROADS.");
        edges.range("one", () -> {
            EachRoadOnce x = many(3).get();
            x.one(1);
            return x;
        }, v -> x -> x.meets(v, 0, 1), 0, 1, v -> 1);
        edges.refused("one 0 where there are none", EMPTY, x -> x.meets(0, 0, 0), Check.BAD);
        for (int roads : new int[] {10, 11}) {
            Supplier<EachRoadOnce> made = () -> {
                EachRoadOnce x = many(roads).get();
                x.rule(1, 1, 0);
                x.row(3, 2, 7);
                x.row(4, 2, 0);
                return x;
            };
            edges.outside("s", made, v -> x -> x.meets(0, v, 8), 0, 7);
            edges.outside("n", made, v -> x -> x.meets(0, 0, v), 0, 8);
            edges.refused("a RULE", made, x -> x.meets(0, 1, 0), Check.OTHER);
            edges.refused("a RULE has fewer elements", made, x -> x.meets(0, 1, 8), Check.OTHER);
            edges.refused("NOTHING", made, x -> x.meets(0, 2, 0), Check.NOTHING);
            edges.refused("NOTHING has fewer elements", made, x -> x.meets(0, 2, 8), Check.NOTHING);
            edges.refused("eight of seven", made, x -> x.meets(0, 3, 8), Check.BAD);
            edges.refused("one of none", made, x -> x.meets(0, 4, 1), Check.BAD);
            for (int s : new int[] {1, 2}) {
                edges.refused("BAD ONE ahead of what SHELF " + s + " holds", made, x -> x.meets(1, s, 0), Check.BAD);
                edges.refused("BAD n ahead of what SHELF " + s + " holds", made, x -> x.meets(0, s, 9), Check.BAD);
                edges.refused("BAD n ahead of what SHELF " + s + " holds", made, x -> x.meets(0, s, -1), Check.BAD);
            }
            if (roads == 10) {
                edges.asks("seven of seven", made, x -> x.meets(0, 3, 7), 7);
                edges.asks("none of none", made, x -> x.meets(0, 4, 0), 0);
            } else {
                edges.refused("seven of seven", made, x -> x.meets(0, 3, 7), Check.STUCK);
                edges.refused("none of none", made, x -> x.meets(0, 4, 0), Check.STUCK);
            }
        }
    }

    private static void near() {
        edges.of(39, "The fewest MILES by LEFT ROADS from where one is to a PLACE. BAD; STUCK: it isn't in REACH.");
        int[] full = {46, 45, 51, 50, 49, 48, 47, 0};
        edges.range("place", FULL, v -> x -> x.near(5, v), 0, 7, v -> full[v]);
        edges.range("one", FULL, v -> x -> x.near(v, 7), 0, 5, v -> 0);
        edges.refused("one 0 where there are none", EMPTY, x -> x.near(0, 0), Check.BAD);
        edges.asks("where one is, without ROADS", land("one 7"), x -> x.near(0, 7), 0);
        for (int place = 0; place < 7; place++) {
            int p = place;
            edges.refused("not in REACH, " + place, land("one 7"), x -> x.near(0, p), Check.STUCK);
        }
        edges.outside("place ahead of STUCK", land("one 7"), v -> x -> x.near(0, v), 0, 7);
        edges.asks("the farthest", land("road 6 7 miles 60;road 5 6 miles 60;road 4 5 miles 60;road 3 4 miles 60;road 2 3 miles 60;"
            + "road 1 2 miles 60;road 0 1 miles 60;one 0"), x -> x.near(0, 7), 420);
        edges.asks("round about is nearer by one", land("road 0 1 miles 60;road 0 2 miles 30;road 2 1 miles 29;one 0"), x -> x.near(0, 1), 59);
        edges.asks("round about is farther by one", land("road 0 1 miles 58;road 0 2 miles 30;road 2 1 miles 29;one 0"), x -> x.near(0, 1), 58);
        edges.asks("by a ROUND one", land("road 0 1 miles 5 round;road 0 1 miles 6;one 0"), x -> x.near(0, 1), 5);
        edges.asks("not by one that is gone along", land("road 0 1 miles 5;road 0 1 miles 6;one 0;gone 0 0"), x -> x.near(0, 1), 6);
        edges.asks("not by a shut one", land("road 0 1 miles 5;road 0 1 miles 6;one 0;shut 0"), x -> x.near(0, 1), 6);
        edges.refused("by none that is LEFT", land("road 0 1 miles 5;road 0 1 miles 6;one 0;shut 0;gone 0 1"), x -> x.near(0, 1), Check.STUCK);
    }

    private static void together() {
        edges.of(40, "TOGETHER: PLACES (bits; what 0), the least sum (1), the PLACE of it, of several the first (2).");
        int[] full = {255, 0, 7};
        edges.range("what", FULL, v -> x -> x.together(0, 5, v), 0, 2, v -> full[v]);
        edges.of(40, "BAD: also one with themselves; STUCK: 1, 2, if there is none.");
        edges.range("one", FULL, v -> x -> x.together(v, 5, 0), 0, 4, v -> 255);
        edges.range("other", FULL, v -> x -> x.together(5, v, 0), 0, 4, v -> 255);
        edges.outside("one", FULL, v -> x -> x.together(v, 0, 0), 0, 5);
        edges.outside("other", FULL, v -> x -> x.together(0, v, 0), 0, 5);
        for (int one = 0; one < 6; one++) {
            int o = one;
            edges.refused("one " + one + " with themselves", FULL, x -> x.together(o, o, 0), Check.BAD);
        }
        edges.refused("nobody with nobody", EMPTY, x -> x.together(0, 1, 0), Check.BAD);
        Supplier<EachRoadOnce> apart = land("road 0 1 miles 1;road 2 3 miles 1;one 0;one 2");
        edges.asks("none: 0 isn't refused", apart, x -> x.together(0, 1, 0), 0);
        edges.refused("the sum, if there is none", apart, x -> x.together(0, 1, 1), Check.STUCK);
        edges.refused("the PLACE, if there is none", apart, x -> x.together(1, 0, 2), Check.STUCK);
        edges.outside("what ahead of STUCK", apart, v -> x -> x.together(0, 1, v), 0, 2);
        edges.refused("one with themselves ahead of STUCK", apart, x -> x.together(1, 1, 2), Check.BAD);
        edges.of(40, "TOGETHER of two: PLACES in REACH of both (by all LEFT ROADS); the least sum of MILES by which they can meet, each by their own ROADS.");
        Supplier<EachRoadOnce> halves = land("road 0 1 miles 1;road 1 2 miles 1;road 2 3 miles 1;one 0;one 3;gone 0 1;gone 1 2");
        edges.refused("each by their own: they can't", halves, x -> x.together(0, 1, 1), Check.STUCK);
        Supplier<EachRoadOnce> meet = land("road 0 1 miles 1;road 1 2 miles 1;road 2 3 miles 1;one 0;one 3;gone 0 2;gone 1 1");
        int[] want = {4, 3, 2};
        edges.range("what, each by their own", meet, v -> x -> x.together(0, 1, v), 0, 2, v -> want[v]);
        edges.asks("by ROUND ones, too", land("road 0 1 miles 9 round;one 0;one 1"), x -> x.together(0, 1, 1), 9);
        edges.asks("of several the first", land("road 6 7 miles 9;one 7;one 6"), x -> x.together(0, 1, 2), 6);
        for (int place = 0; place < 8; place++) {
            edges.asks("both at " + place, land("one " + place + ";one " + place), x -> x.together(0, 1, 0), 1 << place);
            edges.asks("both at " + place + ", the sum", land("one " + place + ";one " + place), x -> x.together(0, 1, 1), 0);
            edges.asks("both at " + place + ", the PLACE", land("one " + place + ";one " + place), x -> x.together(0, 1, 2), place);
        }
    }

    private static void frees() {
        edges.of(41, "FREES. BAD.");
        edges.range("one", FULL, v -> x -> x.frees(v), 0, 5, v -> 0x7f);
        edges.refused("one 0 where there are none", EMPTY, x -> x.frees(0), Check.BAD);
        edges.of(41, "FREES: PLACES (bits), others than where one is, from which HOME can be come to by ROADS LEFT");
        for (int home = 0; home < 8; home++) {
            edges.asks("at HOME without ROADS", land("one " + home), x -> x.frees(0), 0);
            edges.asks("HOME itself", land("one " + home + ";at 0 " + (home + 1) % 8), x -> x.frees(0), 1 << home);
        }
        edges.asks("by one ROAD", land("road 1 2 miles 1;one 1;at 0 7"), x -> x.frees(0), 6);
        edges.asks("not by one that is gone along", land("road 1 2 miles 1;one 1;at 0 7;gone 0 0"), x -> x.frees(0), 2);
        edges.asks("not by a shut one", land("road 1 2 miles 1;one 1;at 0 7;shut 0"), x -> x.frees(0), 2);
        edges.asks("by a ROUND one that is gone along", land("road 1 2 miles 1 round;one 1;at 0 7;gone 0 0"), x -> x.frees(0), 6);
        edges.asks("not where one is", land("road 1 2 miles 1;road 2 3 miles 1;one 1;at 0 2"), x -> x.frees(0), 10);
        edges.asks("all seven others", FULL, x -> x.frees(3), 0x7f);
        edges.of(41, "(a ROAD built there would make them SAFE)");
        Supplier<EachRoadOnce> lost = land("road 1 2 miles 1;road 3 4 miles 1;one 1;at 0 7");
        edges.asks("not SAFE", lost, x -> x.safe(0), 0);
        for (int place = 0; place < 7; place++) {
            int p = place;
            edges.fine("a ROAD built to " + place, lost, x -> x.road(7, p, 1, false) == 2 ? x.safe(0) : Check.BAD, 6 >> place & 1);
        }
    }

    private static void send() {
        edges.of(42, "SEND for one along a ROAD; NONE: none. BAD.");
        edges.range("one", FULL, v -> x -> x.send(v, 15), 0, 5, v -> v == 0 ? 1 : 0);
        edges.range("road", FULL, v -> x -> x.send(5, v), 0, 15, v -> 0);
        edges.outside("one of two", RICH, v -> x -> x.send(v, 0), 0, 1);
        edges.outside("road of four", RICH, v -> x -> x.send(0, v), 0, 3);
        edges.refused("nobody, no ROAD: one refusal", EMPTY, x -> x.send(0, 0), Check.BAD);
        edges.asks("nobody else: NONE isn't refused", land("road 0 1 miles 1;one 0"), x -> x.send(0, 0), -1);
        edges.of(42, "SEND: of the others who are at an end of a told ROAD the first to whom it is LEFT");
        String text = "road 3 4 miles 1;road 4 3 miles 1 round;one 3;one 4;one 3;one 4;one 3;one 4";
        for (int first = 0; first < 6; first++) {
            StringBuilder gone = new StringBuilder(text);
            for (int one = 0; one < first; one++) {
                gone.append(";gone ").append(one).append(" 0");
            }
            int f = first;
            edges.range("for each, the first to whom it is LEFT is " + first, land(gone.toString()), v -> x -> x.send(v, 0), 0, 5,
                v -> v != f ? f : f == 5 ? -1 : f + 1);
        }
        edges.asks("LEFT to all, but shut", land(text + ";shut 0"), x -> x.send(0, 0), -1);
        edges.asks("a ROUND one that is gone along", land(text + ";gone 1 1"), x -> x.send(0, 1), 1);
        edges.asks("none at an end of it", land("road 3 4 miles 1;one 3;one 5;one 2"), x -> x.send(0, 0), -1);
        edges.asks("at its second end", land("road 3 4 miles 1;one 3;one 5;one 4"), x -> x.send(0, 0), 2);
        edges.asks("for one who isn't there", land("road 3 4 miles 1;one 0;one 3"), x -> x.send(0, 0), 1);
    }

    private static void fast() {
        edges.of(43, "PEOPLE (bits) who are STUCK FAST (safe false), who aren't SAFE (true).");
        edges.asks("nobody there, STUCK FAST", EMPTY, x -> x.fast(false), 0);
        edges.asks("nobody there, not SAFE", EMPTY, x -> x.fast(true), 0);
        edges.asks("none of six, STUCK FAST", FULL, x -> x.fast(false), 0);
        edges.asks("none of six, not SAFE", FULL, x -> x.fast(true), 0);
        String six = "one 0;one 1;one 2;one 3;one 4;one 5";
        edges.asks("all six, STUCK FAST", land(six), x -> x.fast(false), 63);
        edges.asks("at HOME all are SAFE", land(six), x -> x.fast(true), 0);
        edges.asks("away from HOME none is", land(six + ";at 0 7;at 1 7;at 2 7;at 3 7;at 4 7;at 5 7"), x -> x.fast(true), 63);
        for (int one = 0; one < 6; one++) {
            edges.asks("one " + one + " alone isn't STUCK FAST", land(six + ";road " + one + " 7 miles 1"), x -> x.fast(false), 63 & ~(1 << one));
            edges.asks("one " + one + " alone isn't SAFE", land(six + ";at " + one + " 7"), x -> x.fast(true), 1 << one);
        }
        edges.asks("a ROUND one that is gone along frees", land("road 0 1 miles 1 round;one 0;gone 0 0"), x -> x.fast(false), 0);
        edges.asks("a shut one doesn't", land("road 0 1 miles 1 round;one 0;shut 0"), x -> x.fast(false), 1);
    }

    private static void wander() {
        edges.of(44, "WANDERING of one, n times at most (1 to 60): how many ROADS they went along. BAD.");
        Supplier<EachRoadOnce> round = land("road 0 1 miles 1 round;one 0;one 1");
        edges.range("n", round, v -> x -> x.wander(0, v), 1, 60, v -> v);
        edges.range("n, then how many they have gone along", round, v -> x -> x.wander(1, v) == v ? x.oneOf(1, 3) : Check.BAD, 1, 60, v -> v);
        edges.range("one", round, v -> x -> x.wander(v, 5), 0, 1, v -> 5);
        edges.refused("one 0 where there are none", EMPTY, x -> x.wander(0, 1), Check.BAD);
        edges.of(44, "till STUCK FAST");
        Supplier<EachRoadOnce> line = land("road 0 1 miles 1;road 1 2 miles 1;one 0;one 5");
        edges.fine("two ROADS, one told", line, x -> x.wander(0, 1), 1);
        edges.fine("two ROADS, two told", line, x -> x.wander(0, 2), 2);
        edges.fine("two ROADS, three told", line, x -> x.wander(0, 3), 2);
        edges.asks("STUCK FAST at once: 0 isn't refused, no DRAW", line, x -> x.wander(1, 60), 0);
        edges.outside("n of one who is STUCK FAST", line, v -> x -> x.wander(1, v), 1, 60);
        edges.fine("in truth", line, x -> x.wander(0, 60) == 2 ? x.oneOf(0, 1) : Check.BAD, 2);
    }

    /** A DRAW in longs, so that it shares nothing with the class. */
    private static long seedBehind(long seed) {
        return (int) (seed * 1103515245L + 12345L & 0xffffffffL);
    }

    private static void draws() {
        edges.of(44, "A DRAW below n: SEED (1 at first) becomes SEED times 1103515245, and 12345 (an int, wrapping); its upper 16 bits, no sign, modulo n.");
        int[] seeds = {1, 0, -1, 2, 3, 4, 5, 77, -77, Integer.MAX_VALUE, Integer.MIN_VALUE, 0x40000000, 0x7fff0000, 123456789, -987654321};
        int below = 0;
        for (int ways = 1; ways <= 16; ways++) {
            for (int seed : seeds) {
                EachRoadOnce x = new EachRoadOnce();
                x.one(0);
                for (int road = 0; road < ways; road++) {
                    x.road(road % 2, 1 - road % 2, 1, true);
                }
                x.seed(seed);
                long then = seedBehind(seed);
                long drawn = (then & 0xffffffffL) / 65536 % ways;
                below += then < 0 ? 1 : 0;
                edges.due("one DRAW", x.wander(0, 1), 1);
                edges.due("SEED behind " + seed, x.status(6), then);
                for (int road = 0; road < ways; road++) {
                    edges.due("ROAD " + road + " of " + ways + " by SEED " + seed, x.when(0, road), road == drawn ? 0 : -1);
                }
            }
        }
        edges.due("some SEEDS are below 0", below > 0 ? 1 : 0, 1);
        edges.of(44, "one of the ROADS LEFT at one's PLACE by a DRAW below how many there are (by numbers)");
        EachRoadOnce x = Check.read("road 4 5 miles 1;road 0 1 miles 1;road 0 1 miles 1;shut 1;road 1 0 miles 1;road 0 2 miles 1;gone 0 2".replace("gone", "one 0;gone"));
        x.seed(9);
        long drawn = (seedBehind(9) & 0xffffffffL) / 65536 % 2;
        edges.due("two are LEFT there", x.here(0), 1 << 3 | 1 << 4);
        x.wander(0, 1);
        edges.due("the first of them", x.when(0, 3), drawn == 0 ? 0 : -1);
        edges.due("the second of them", x.when(0, 4), drawn == 1 ? 0 : -1);
        edges.of(44, "WANDERING by draws: n times one of the ROADS LEFT");
        EachRoadOnce y = Check.read("road 0 1 miles 1 round;one 0");
        y.wander(0, 60);
        long seed = 1;
        for (int i = 0; i < 60; i++) {
            seed = seedBehind(seed);
        }
        edges.due("sixty DRAWS, though below 1", y.status(6), seed);
    }
}
