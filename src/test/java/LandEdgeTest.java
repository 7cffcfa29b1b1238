import java.util.function.Supplier;

/** Promises 9 to 14 and 16 to 18, sentence by sentence: the boundaries of ROADS, PEOPLE, YEARS and THE TAPE. */
public final class LandEdgeTest {
    private static final Edges edges = new Edges();
    private static final Supplier<EachRoadOnce> EMPTY = Edges::empty;
    private static final Supplier<EachRoadOnce> RICH = Edges::rich;
    private static final Supplier<EachRoadOnce> FULL = Edges::full;

    public static void main(String[] args) {
        road();
        roadFull();
        roadAtFirst();
        one();
        oneAtFirst();
        shut();
        anew();
        anewYears();
        feed();
        feedFull();
        wipe();
        roadOf();
        oneOf();
        when();
        edges.end("LandEdgeTest", 9, 10, 11, 12, 13, 14, 16, 17, 18);
    }

    private static void road() {
        edges.of(9, "PLACES are 0 to 7.");
        edges.range("from, to 0", EMPTY, v -> x -> x.road(v, 0, 1, false), 1, 7, v -> 0);
        edges.range("from, to 7", EMPTY, v -> x -> x.road(v, 7, 1, false), 0, 6, v -> 0);
        edges.range("to, from 0", EMPTY, v -> x -> x.road(0, v, 1, true), 1, 7, v -> 0);
        edges.range("to, from 7", EMPTY, v -> x -> x.road(7, v, 1, true), 0, 6, v -> 0);
        edges.outside("from", RICH, v -> x -> x.road(v, 3, 1, false), 0, 7);
        edges.outside("to", RICH, v -> x -> x.road(3, v, 1, false), 0, 7);
        edges.of(9, "two unlike PLACES");
        for (int a = 0; a < 8; a++) {
            for (int b = 0; b < 8; b++) {
                roadBetween(a, b);
            }
        }
        edges.refused("two like ones that are no PLACES", RICH, x -> x.road(8, 8, 1, false), Check.BAD);
        edges.of(9, "MILES (1 to 60)");
        edges.range("miles", EMPTY, v -> x -> x.road(0, 1, v, false), 1, 60, v -> 0);
        edges.range("miles, then roadOf", EMPTY, v -> x -> x.road(0, 1, v, true) == 0 ? x.roadOf(0, 2) : Check.BAD, 1, 60, v -> v);
        edges.outside("miles of one more", RICH, v -> x -> x.road(0, 1, v, true), 1, 60);
    }

    private static void roadBetween(int a, int b) {
        if (a == b) {
            edges.refused("from " + a + " to itself", RICH, x -> x.road(a, b, 1, false), Check.BAD);
        } else {
            edges.fine("from " + a + " to " + b, RICH, x -> x.road(a, b, 1, false), 4);
        }
    }

    private static void roadFull() {
        edges.of(9, "ROADS have numbers, 0 on, 16 at most");
        EachRoadOnce x = new EachRoadOnce();
        for (int i = 0; i < 16; i++) {
            edges.due("ROAD " + i, x.road(0, 1, 60, i % 2 == 0), i);
        }
        edges.due("sixteen", x.status(0), 16);
        Supplier<EachRoadOnce> fifteen = () -> Check.read("road0 1miles1;".repeat(14) + "road0 1miles1");
        edges.fine("the sixteenth", fifteen, y -> y.road(0, 1, 1, false), 15);
        edges.refused("the seventeenth", FULL, y -> y.road(0, 1, 1, false), Check.FULL);
        edges.refused("the seventeenth, ROUND", FULL, y -> y.road(7, 6, 60, true), Check.FULL);
        edges.of(9, "A ROAD: its number. BAD; FULL.");
        edges.refused("BAD from ahead of FULL", FULL, y -> y.road(-1, 1, 1, false), Check.BAD);
        edges.refused("BAD to ahead of FULL", FULL, y -> y.road(1, 8, 1, false), Check.BAD);
        edges.refused("to itself ahead of FULL", FULL, y -> y.road(1, 1, 1, false), Check.BAD);
        edges.refused("BAD MILES ahead of FULL", FULL, y -> y.road(0, 1, 61, false), Check.BAD);
        edges.refused("no MILES ahead of FULL", FULL, y -> y.road(0, 1, 0, false), Check.BAD);
    }

    private static void roadAtFirst() {
        edges.of(9, "shut or not (at first open), ROUND or not");
        edges.fine("open", RICH, x -> x.road(5, 6, 1, false) == 4 ? x.roadOf(4, 3) : Check.BAD, 0);
        edges.of(9, "of each ROAD the YEAR in which they went along it last, or none (at first none)");
        edges.fine("one 0", RICH, x -> x.road(5, 6, 1, true) == 4 ? x.when(0, 4) : Check.BAD, -1);
        edges.fine("one 1", RICH, x -> x.road(5, 6, 1, true) == 4 ? x.when(1, 4) : Check.BAD, -1);
    }

    private static void one() {
        edges.of(10, "PLACES are 0 to 7.");
        edges.range("home", EMPTY, v -> x -> x.one(v), 0, 7, v -> 0);
        edges.range("home of one more", RICH, v -> x -> x.one(v), 0, 7, v -> 2);
        edges.range("home, then oneOf", RICH, v -> x -> x.one(v) == 2 ? x.oneOf(2, 0) : Check.BAD, 0, 7, v -> v);
        edges.of(10, "PEOPLE have numbers, 0 on, 6 at most");
        EachRoadOnce x = new EachRoadOnce();
        for (int i = 0; i < 6; i++) {
            edges.due("one " + i, x.one(i), i);
        }
        edges.due("six", x.status(1), 6);
        edges.fine("the sixth", () -> Check.read("one 0;one 0;one 0;one 0;one 0"), y -> y.one(7), 5);
        edges.refused("the seventh", FULL, y -> y.one(0), Check.FULL);
        edges.of(10, "One more of the PEOPLE: the number. BAD; FULL.");
        edges.refused("BAD ahead of FULL", FULL, y -> y.one(8), Check.BAD);
        edges.refused("BAD ahead of FULL", FULL, y -> y.one(-1), Check.BAD);
    }

    private static void oneAtFirst() {
        for (int home = 0; home < 8; home++) {
            int h = home;
            edges.of(10, "a HOME, a PLACE where they are (HOME at first)");
            edges.fine("PLACE", RICH, x -> x.one(h) == 2 ? x.oneOf(2, 1) : Check.BAD, h);
            edges.of(10, "BEEN: PLACES (bits) where they have been (HOME at first)");
            edges.fine("BEEN", RICH, x -> x.one(h) == 2 ? x.oneOf(2, 2) : Check.BAD, 1 << h);
        }
        edges.of(10, "of each ROAD the YEAR in which they went along it last, or none (at first none)");
        for (int road = 0; road < 4; road++) {
            int r = road;
            edges.fine("ROAD " + road, RICH, x -> x.one(1) == 2 ? x.when(2, r) : Check.BAD, -1);
        }
        edges.fine("ROADS ever gone along", RICH, x -> x.one(1) == 2 ? x.oneOf(2, 3) : Check.BAD, 0);
    }

    private static void shut() {
        edges.of(11, "A ROAD is shut, or open: 1; 0 if it was so. BAD.");
        edges.fine("an open one shut", RICH, x -> x.shut(0, true), 1);
        edges.asks("an open one opened", RICH, x -> x.shut(0, false), 0);
        edges.asks("a shut one shut", RICH, x -> x.shut(3, true), 0);
        edges.fine("a shut one opened", RICH, x -> x.shut(3, false), 1);
        edges.fine("shut, then told", RICH, x -> x.shut(0, true) == 1 ? x.roadOf(0, 3) : Check.BAD, 1);
        edges.fine("opened, then told", RICH, x -> x.shut(3, false) == 1 ? x.roadOf(3, 3) : Check.BAD, 0);
        edges.fine("a ROUND one", RICH, x -> x.shut(2, true), 1);
        edges.range("road", RICH, v -> x -> x.shut(v, true), 0, 3, v -> v == 3 ? 0 : 1);
        edges.range("road of sixteen", FULL, v -> x -> x.shut(v, true), 0, 15, v -> 1);
        edges.outside("road, opened", FULL, v -> x -> x.shut(v, false), 0, 15);
        edges.outside("road of none", EMPTY, v -> x -> x.shut(v, true), 0, -1);
        edges.refused("ROAD 0 where there are none", EMPTY, x -> x.shut(0, false), Check.BAD);
        EachRoadOnce x = Edges.full();
        for (int road = 0; road < 16; road++) {
            x.shut(road, true);
        }
        edges.due("all sixteen", x.status(8), 16);
        edges.due("none is left", x.left(5), 0);
    }

    private static void anew() {
        edges.of(12, "ANEW (0 to 99; 0 at first)");
        edges.range("v", RICH, v -> x -> x.anew(v), 0, 99, v -> 9);
        edges.range("v, then status", EMPTY, v -> x -> x.anew(v) == 0 ? x.status(3) : Check.BAD, 0, 99, v -> v);
        edges.of(12, "ANEW becomes v: what it was. BAD.");
        EachRoadOnce x = new EachRoadOnce();
        edges.due("0 at first", x.anew(99), 0);
        edges.due("99", x.anew(0), 99);
        edges.due("0 again", x.anew(0), 0);
    }

    private static EachRoadOnce goneWith(int anew, int yearsAhead, int yearsAgo) {
        EachRoadOnce x = Check.read("road 0 1 miles 1;road 1 0 miles 1 round;one 0");
        x.anew(anew);
        for (int i = 0; i < yearsAhead; i++) {
            x.year();
        }
        x.go(0, 0);
        for (int i = 0; i < yearsAgo; i++) {
            x.year();
        }
        return x;
    }

    private static void anewYears() {
        edges.of(12, "so many YEARS later a ROAD counts as not gone along (0: never)");
        for (int anew : new int[] {1, 2, 3, 50, 98, 99}) {
            for (int ahead : new int[] {0, 1, 7}) {
                edges.due("ANEW " + anew + ", gone along in THE YEAR " + ahead + ", a YEAR too early", goneWith(anew, ahead, anew - 1).left(0), 2);
                edges.due("ANEW " + anew + ", gone along in THE YEAR " + ahead + ", so many YEARS later", goneWith(anew, ahead, anew).left(0), 3);
                edges.due("ANEW " + anew + ", gone along in THE YEAR " + ahead + ", a YEAR later still", goneWith(anew, ahead, anew + 1).left(0), 3);
            }
        }
        for (int years : new int[] {0, 1, 99, 100, 300}) {
            edges.due("never, not " + years + " YEARS later", goneWith(0, 0, years).left(0), 2);
        }
        EachRoadOnce x = goneWith(2, 0, 2);
        edges.due("gone along once more", x.go(0, 0), 0);
        edges.due("not LEFT in that YEAR", x.left(0), 2);
        x.year();
        edges.due("nor in the next", x.left(0), 2);
        x.year();
        edges.due("but ANEW YEARS later", x.left(0), 3);
        edges.due("going again", x.go(0, 0), 1);
        edges.due("in THE YEAR", x.when(0, 0), 4);
    }

    private static void feed() {
        edges.of(13, "THE TAPE gets the n lowest bytes (1 .. 4) of v behind it, the highest of these first: its size.");
        edges.range("n", EMPTY, v -> x -> x.feed(0x20202020, v), 1, 4, v -> v);
        edges.range("n behind five", RICH, v -> x -> x.feed(-1, v), 1, 4, v -> 5 + v);
        int word = 'o' << 24 | 'n' << 16 | 'e' << 8 | '7';
        for (int n = 1; n <= 4; n++) {
            EachRoadOnce x = new EachRoadOnce();
            String text = "one7".substring(4 - n);
            String ahead = "one7".substring(0, 4 - n);
            Check.feedText(x, ahead);
            edges.due("the " + n + " lowest", x.feed(word, n), 4);
            edges.due(ahead + " and " + text + " is a LAND", x.land(), 1);
            edges.due("of one", x.oneOf(0, 0), 7);
        }
        EachRoadOnce x = new EachRoadOnce();
        x.feed(0xff6f6e65, 3);
        x.feed(0xffffff35, 1);
        edges.due("what lies above the lowest bytes counts for nothing", x.land(), 1);
        x.feed(0xff, 1);
        edges.due("the highest byte there is", x.land(), -20);
        x.feed(0xff6f, 2);
        edges.due("a byte of 255 is no blank", x.land(), -20);
    }

    private static EachRoadOnce tapeOf(int size) {
        EachRoadOnce x = new EachRoadOnce();
        Check.feedByFours(x, "anew 5" + " ".repeat(size - 6));
        return x;
    }

    private static void feedFull() {
        edges.of(13, "THE TAPE (bytes, 250 at most)");
        for (int n = 1; n <= 4; n++) {
            int bytes = n;
            for (int size = 245; size <= 250; size++) {
                int ahead = size;
                if (size + n <= 250) {
                    edges.fine(n + " behind " + size, () -> tapeOf(ahead), x -> x.feed(0, bytes), size + n);
                } else {
                    edges.refused(n + " behind " + size, () -> tapeOf(ahead), x -> x.feed(0, bytes), Check.FULL);
                }
            }
        }
        edges.refused("one byte behind a full one", FULL, x -> x.feed('1', 1), Check.FULL);
        EachRoadOnce half = tapeOf(249);
        edges.due("two behind 249", half.feed('x' << 8 | 'x', 2), Check.FULL);
        edges.due("the first of them isn't there", half.land(), 1);
        edges.of(13, "its size. BAD; FULL.");
        edges.outside("n ahead of FULL", FULL, v -> x -> x.feed(1, v), 1, 4);
    }

    private static void wipe() {
        edges.of(14, "THE TAPE is empty: its size ahead.");
        edges.asks("an empty one", EMPTY, x -> x.wipe(), 0);
        edges.fine("five bytes", RICH, x -> x.wipe(), 5);
        edges.fine("250 bytes", FULL, x -> x.wipe(), 250);
        edges.fine("250 bytes, then its size", FULL, x -> x.wipe() == 250 ? x.status(5) : Check.BAD, 0);
        edges.fine("twice", FULL, x -> x.wipe() == 250 ? x.wipe() : Check.BAD, 0);
        edges.fine("there is room again", FULL, x -> x.wipe() == 250 ? x.feed(1, 4) : Check.BAD, 4);
        edges.fine("nothing else is empty", RICH, x -> x.wipe() == 5 ? x.status(1) : Check.BAD, 2);
    }

    private static void roadOf() {
        edges.of(16, "Of a ROAD: its PLACES (0, 1), MILES (2), 1 if shut (3), ROUND (4). BAD.");
        int[][] want = {{0, 1, 5, 0, 0}, {1, 2, 7, 0, 0}, {2, 0, 3, 0, 1}, {3, 4, 2, 1, 0}};
        for (int road = 0; road < 4; road++) {
            int r = road;
            edges.range("what of ROAD " + road, RICH, v -> x -> x.roadOf(r, v), 0, 4, v -> want[r][v]);
            for (int what = 0; what <= 4; what++) {
                int w = what;
                edges.asks("ROAD " + road + ", " + what, RICH, x -> x.roadOf(r, w), want[road][what]);
            }
        }
        edges.range("road", RICH, v -> x -> x.roadOf(v, 2), 0, 3, v -> want[v][2]);
        edges.range("road of sixteen", FULL, v -> x -> x.roadOf(v, 2), 0, 15, v -> 60 - v);
        edges.range("ROUND of sixteen", FULL, v -> x -> x.roadOf(v, 4), 0, 15, v -> v >= 12 ? 1 : 0);
        edges.refused("ROAD 0 where there are none", EMPTY, x -> x.roadOf(0, 0), Check.BAD);
    }

    private static void oneOf() {
        edges.of(17, "Of one: HOME (0), PLACE (1), BEEN (2), how many ROADS they have ever gone along (3). BAD.");
        int[][] want = {{0, 1, 3, 1}, {2, 2, 4, 0}};
        for (int one = 0; one < 2; one++) {
            int o = one;
            edges.range("what of one " + one, RICH, v -> x -> x.oneOf(o, v), 0, 3, v -> want[o][v]);
            for (int what = 0; what <= 3; what++) {
                int w = what;
                edges.asks("one " + one + ", " + what, RICH, x -> x.oneOf(o, w), want[one][what]);
            }
        }
        edges.range("one", RICH, v -> x -> x.oneOf(v, 0), 0, 1, v -> want[v][0]);
        edges.range("one of six", FULL, v -> x -> x.oneOf(v, 1), 0, 5, v -> 7);
        edges.refused("one 0 where there are none", EMPTY, x -> x.oneOf(0, 0), Check.BAD);
        EachRoadOnce x = Edges.full();
        for (int i = 1; i <= 60; i++) {
            x.go(0, 15);
            edges.due("the same ROUND one time and again", x.oneOf(0, 3), i);
        }
    }

    private static void when() {
        edges.of(18, "The YEAR in which one went along a ROAD last; NONE: never. BAD. (NONE isn't refused.)");
        edges.asks("in THE YEAR 1", RICH, x -> x.when(0, 0), 1);
        edges.asks("never", RICH, x -> x.when(0, 1), -1);
        edges.asks("never, a shut one", RICH, x -> x.when(1, 3), -1);
        edges.asks("never, of another one", RICH, x -> x.when(1, 0), -1);
        edges.fine("in THE YEAR 0", FULL, x -> x.go(3, 2) == 2 ? x.when(3, 2) : Check.BAD, 0);
        edges.range("one", RICH, v -> x -> x.when(v, 0), 0, 1, v -> v == 0 ? 1 : -1);
        edges.range("road", RICH, v -> x -> x.when(0, v), 0, 3, v -> v == 0 ? 1 : -1);
        edges.range("one of six", FULL, v -> x -> x.when(v, 15), 0, 5, v -> -1);
        edges.range("road of sixteen", FULL, v -> x -> x.when(5, v), 0, 15, v -> -1);
        edges.refused("nobody, no ROAD: one refusal", EMPTY, x -> x.when(0, 0), Check.BAD);
        EachRoadOnce x = Edges.full();
        for (int one = 0; one < 6; one++) {
            x.year();
            x.go(one, one);
        }
        for (int one = 0; one < 6; one++) {
            for (int road = 0; road < 16; road++) {
                edges.due("one " + one + " on ROAD " + road, x.when(one, road), one == road ? one + 1 : -1);
            }
        }
    }
}
