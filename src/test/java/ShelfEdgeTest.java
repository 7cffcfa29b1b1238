import java.util.Arrays;
import java.util.function.Supplier;

/** Promises 1 to 8, sentence by sentence: the boundaries of SHELVES, ROWS and RULES. */
public final class ShelfEdgeTest {
    private static final Edges edges = new Edges();
    private static final Supplier<EachRoadOnce> EMPTY = Edges::empty;
    private static final Supplier<EachRoadOnce> RICH = Edges::rich;
    private static final Supplier<EachRoadOnce> FULL = Edges::full;

    public static void main(String[] args) {
        newObject();
        row();
        rowAtFirst();
        set();
        setOrder();
        lowestBits();
        copy();
        copyStretches();
        copyOrder();
        element();
        holds();
        rule();
        says();
        saysKinds();
        saysOrder();
        edges.end("ShelfEdgeTest", 1, 2, 3, 4, 5, 6, 7, 8);
    }

    private static void newObject() {
        edges.of(1, "No ROADS, no PEOPLE; SHELVES hold NOTHING; THE TAPE is empty.");
        edges.asks("no ROADS", EMPTY, x -> x.status(0), 0);
        edges.asks("no PEOPLE", EMPTY, x -> x.status(1), 0);
        edges.asks("SHELVES that hold something", EMPTY, x -> x.status(7), 0);
        for (int s = 0; s < 8; s++) {
            int shelf = s;
            edges.asks("SHELF " + s, EMPTY, x -> x.holds(shelf), -1);
        }
        edges.asks("THE TAPE", EMPTY, x -> x.status(5), 0);
        edges.asks("what it had", EMPTY, x -> x.wipe(), 0);
        edges.of(1, "SHELVES 0 to 7 hold NOTHING (at first), a ROW, or a RULE.");
        edges.asks("an element", EMPTY, x -> x.element(7, 0), 0);
        edges.of(1, "THE YEAR (0 at first).");
        edges.asks("THE YEAR", EMPTY, x -> x.status(2), 0);
        edges.of(1, "ANEW (0 to 99; 0 at first)");
        edges.asks("ANEW", EMPTY, x -> x.status(3), 0);
        edges.of(1, "SEED (1 at first)");
        edges.asks("SEED", EMPTY, x -> x.status(6), 1);
        edges.of(1, "nothing changes but how many there were");
        for (int what = 12; what <= 16; what++) {
            int w = what;
            edges.asks("status(" + what + ")", EMPTY, x -> x.status(w), 0);
        }
    }

    private static void row() {
        edges.of(2, "SHELVES 0 to 7");
        edges.range("s", EMPTY, v -> x -> x.row(v, 2, 3), 0, 7, v -> 1);
        edges.outside("s in a full one", FULL, v -> x -> x.row(v, 2, 3), 0, 7);
        edges.of(2, "A ROW has a SORT (0 bytes, 1 shorts, 2 ints, 3 longs, 4 booleans)");
        edges.range("sort", RICH, v -> x -> x.row(0, v, 3), 0, 4, v -> 1);
        edges.range("sort, then holds", EMPTY, v -> x -> x.row(0, v, 3) == 1 ? x.holds(0) : Check.BAD, 0, 4, v -> v);
        edges.of(2, "and 0 to 40 elements");
        edges.range("n", RICH, v -> x -> x.row(0, 2, v), 0, 40, v -> 1);
        edges.range("n in SHELF 7 that holds NOTHING", RICH, v -> x -> x.row(7, 4, v), 0, 40, v -> 1);
        edges.of(2, "SHELF s holds a new ROW: 1. BAD.");
        edges.refused("all three are BAD: one refusal", RICH, x -> x.row(8, 5, 41), Check.BAD);
        edges.refused("a bad ROW leaves the RULE", RICH, x -> x.row(2, 0, 41), Check.BAD);
    }

    private static void rowAtFirst() {
        edges.of(2, "0 to 40 elements (0, or not so, at first)");
        for (int sort = 0; sort <= 4; sort++) {
            EachRoadOnce x = Edges.full();
            x.row(3, sort, 40);
            for (int i = 0; i < 40; i++) {
                edges.due("element " + i + " of sort " + sort, x.element(3, i), 0);
            }
        }
        edges.of(2, "SHELF s holds a new ROW");
        EachRoadOnce x = Edges.rich();
        x.row(6, 3, 40);
        edges.due("a new one of the same SORT and size", x.element(6, 0), 0);
        edges.due("its last", x.element(6, 39), 0);
        x.set(6, 39, 7);
        x.row(6, 3, 39);
        edges.due("a shorter one has no such element", x.set(6, 39, 7), Check.BAD);
        x.row(6, 3, 40);
        edges.due("a longer one again: 0 at first", x.element(6, 39), 0);
        x.row(2, 1, 1);
        edges.due("in place of a RULE", x.holds(2), 1);
        edges.due("it is no RULE", x.says(2, 0), Check.OTHER);
    }

    private static void set() {
        edges.of(3, "Element i of the ROW in SHELF s becomes v: 1.");
        edges.range("i of four", RICH, v -> x -> x.set(0, v, 5), 0, 3, v -> 1);
        edges.range("i of forty", RICH, v -> x -> x.set(6, v, 5), 0, 39, v -> 1);
        edges.range("i of four, then that element", RICH, v -> x -> x.set(0, v, 5) == 1 ? x.element(0, v) : Check.BAD, 0, 3, v -> 5);
        edges.outside("i of none", RICH, v -> x -> x.set(4, v, 5), 0, -1);
        edges.refused("element 0 of none", RICH, x -> x.set(4, 0, 5), Check.BAD);
        edges.of(3, "BAD SHELF; OTHER; NOTHING; BAD i.");
        edges.range("s", RICH, v -> x -> x.row(v, 0, 1) == 1 ? x.set(v, 0, 5) : Check.BAD, 0, 7, v -> 1);
        edges.outside("s", FULL, v -> x -> x.set(v, 0, 5), 0, 7);
        edges.refused("the last SHELF holds a RULE", FULL, x -> x.set(7, 0, 5), Check.OTHER);
        edges.refused("the last SHELF holds NOTHING", RICH, x -> x.set(7, 0, 5), Check.NOTHING);
    }

    private static void setOrder() {
        edges.of(3, "BAD SHELF; OTHER; NOTHING; BAD i.");
        edges.refused("BAD SHELF with BAD i", RICH, x -> x.set(8, -1, 5), Check.BAD);
        edges.refused("OTHER ahead of BAD i", RICH, x -> x.set(2, -1, 5), Check.OTHER);
        edges.refused("OTHER ahead of BAD i", RICH, x -> x.set(2, 40, 5), Check.OTHER);
        edges.refused("NOTHING ahead of BAD i", RICH, x -> x.set(5, -1, 5), Check.NOTHING);
        edges.refused("NOTHING ahead of BAD i", EMPTY, x -> x.set(0, 40, 5), Check.NOTHING);
    }

    private static void kept(int sort, long v, long told) {
        EachRoadOnce x = new EachRoadOnce();
        x.row(0, sort, 3);
        edges.due("set of " + v + " in sort " + sort, x.set(0, 1, v), 1);
        edges.due(v + " in sort " + sort, x.element(0, 1), told);
        edges.due("ahead of it", x.element(0, 0), 0);
        edges.due("behind it", x.element(0, 2), 0);
    }

    private static void lowestBits() {
        edges.of(3, "what is put in keeps its lowest bits (of booleans: whether it is not 0)");
        long[][] bytes = {{127, 127}, {128, -128}, {-128, -128}, {-129, 127}, {255, -1}, {256, 0}, {-256, 0}, {Long.MAX_VALUE, -1}, {Long.MIN_VALUE, 0}};
        long[][] shorts = {{32767, 32767}, {32768, -32768}, {-32768, -32768}, {-32769, 32767}, {65535, -1}, {65536, 0}, {Long.MAX_VALUE, -1}};
        long[][] ints = {{2147483647L, 2147483647L}, {2147483648L, -2147483648L}, {-2147483648L, -2147483648L}, {-2147483649L, 2147483647L},
            {4294967295L, -1}, {4294967296L, 0}, {Long.MIN_VALUE, 0}};
        long[][] longs = {{Long.MAX_VALUE, Long.MAX_VALUE}, {Long.MIN_VALUE, Long.MIN_VALUE}, {-1, -1}, {4294967296L, 4294967296L}};
        long[][] booleans = {{0, 0}, {1, 1}, {-1, 1}, {2, 1}, {256, 1}, {65536, 1}, {4294967296L, 1}, {Long.MIN_VALUE, 1}, {Long.MAX_VALUE, 1}};
        long[][][] all = {bytes, shorts, ints, longs, booleans};
        for (int sort = 0; sort <= 4; sort++) {
            for (long[] pair : all[sort]) {
                kept(sort, pair[0], pair[1]);
            }
        }
        edges.of(3, "told they are numbers (1, 0)");
        EachRoadOnce x = new EachRoadOnce();
        x.row(0, 4, 1);
        x.set(0, 0, 9);
        edges.due("so", x.element(0, 0), 1);
        x.set(0, 0, 0);
        edges.due("not so again", x.element(0, 0), 0);
    }

    private static void copy() {
        edges.of(4, "n elements of the ROW in SHELF p from place i on come to places j on of that in q (as they were): n.");
        edges.range("n of four", RICH, v -> x -> x.copy(0, 0, 0, 0, v), 0, 4, v -> v);
        edges.range("n of forty", RICH, v -> x -> x.copy(6, 6, 0, 0, v), 0, 40, v -> v);
        edges.range("i with two", RICH, v -> x -> x.copy(0, 0, v, 0, 2), 0, 2, v -> 2);
        edges.range("j with two", RICH, v -> x -> x.copy(0, 0, 0, v, 2), 0, 2, v -> 2);
        edges.range("i with none", RICH, v -> x -> x.copy(0, 0, v, 0, 0), 0, 4, v -> 0);
        edges.range("j with none", RICH, v -> x -> x.copy(0, 0, 0, v, 0), 0, 4, v -> 0);
        edges.range("n into no elements", RICH, v -> x -> x.copy(0, 4, 0, 0, v), 0, 0, v -> 0);
        edges.range("n from no elements", RICH, v -> x -> x.copy(4, 0, 0, 0, v), 0, 0, v -> 0);
        edges.refused("i and n that wrap round when added", RICH, x -> x.copy(0, 0, Integer.MAX_VALUE, 0, Integer.MAX_VALUE), Check.BAD);
        edges.refused("i and n that come to 0 when added", RICH, x -> x.copy(0, 0, Integer.MIN_VALUE, 0, Integer.MIN_VALUE), Check.BAD);
        edges.refused("j and n that wrap round when added", RICH, x -> x.copy(0, 0, 0, Integer.MAX_VALUE, 1), Check.BAD);
        edges.of(4, "BAD SHELVES");
        edges.range("p", Edges::rich, v -> x -> x.row(v, 2, 4) == 1 ? x.copy(v, 0, 0, 0, 4) : Check.BAD, 0, 7, v -> 4);
        edges.outside("p", RICH, v -> x -> x.copy(v, 0, 0, 0, 1), 0, 7);
        edges.outside("q", RICH, v -> x -> x.copy(0, v, 0, 0, 1), 0, 7);
    }

    private static void copyStretches() {
        edges.of(4, "(as they were)");
        for (int n = 0; n <= 5; n++) {
            for (int i = 0; i + n <= 5; i++) {
                for (int j = 0; j + n <= 5; j++) {
                    copyWithin(n, i, j);
                }
            }
        }
        edges.of(4, "from place i on come to places j on of that in q");
        EachRoadOnce x = Edges.rich();
        x.row(5, 3, 2);
        edges.due("the last of forty to the last of two", x.copy(6, 5, 39, 1, 1), 1);
        edges.due("it came", x.element(5, 1), 1L << 40);
        edges.due("beside it", x.element(5, 0), 0);
        edges.due("it stays", x.element(6, 39), 1L << 40);
    }

    private static void copyWithin(int n, int i, int j) {
        EachRoadOnce x = new EachRoadOnce();
        Check.fill(x, 3, 1, 10, 11, 12, 13, 14);
        long[] want = {10, 11, 12, 13, 14};
        for (int k = 0; k < n; k++) {
            want[j + k] = 10 + i + k;
        }
        edges.due("copy of " + n + " within from " + i + " to " + j, x.copy(3, 3, i, j, n), n);
        for (int k = 0; k < 5; k++) {
            edges.due("element " + k + " behind a copy of " + n + " within from " + i + " to " + j, x.element(3, k), want[k]);
        }
    }

    private static void copyOrder() {
        edges.of(4, "BAD SHELVES; OTHER (also ROWS of two SORTS, if both hold something); NOTHING; BAD the others.");
        edges.refused("BAD p ahead of OTHER q", RICH, x -> x.copy(-1, 2, 0, 0, 1), Check.BAD);
        edges.refused("BAD q ahead of OTHER p", RICH, x -> x.copy(2, 8, 0, 0, 1), Check.BAD);
        edges.refused("BAD p ahead of NOTHING q", RICH, x -> x.copy(8, 5, 0, 0, 1), Check.BAD);
        edges.refused("BAD q ahead of NOTHING p", RICH, x -> x.copy(5, -1, 0, 0, 1), Check.BAD);
        edges.refused("two RULES", RICH, x -> x.copy(2, 3, 0, 0, 0), Check.OTHER);
        edges.refused("one RULE twice", RICH, x -> x.copy(2, 2, 0, 0, 0), Check.OTHER);
        edges.refused("a RULE to a ROW", RICH, x -> x.copy(2, 0, 0, 0, 0), Check.OTHER);
        edges.refused("a ROW to a RULE", RICH, x -> x.copy(0, 2, 0, 0, 0), Check.OTHER);
        edges.refused("OTHER p ahead of NOTHING q", RICH, x -> x.copy(2, 5, 0, 0, 1), Check.OTHER);
        edges.refused("OTHER q ahead of NOTHING p", RICH, x -> x.copy(5, 2, 0, 0, 1), Check.OTHER);
        edges.refused("two SORTS, no elements", RICH, x -> x.copy(0, 1, 0, 0, 0), Check.OTHER);
        edges.refused("two SORTS ahead of BAD i", RICH, x -> x.copy(0, 1, -1, 0, 1), Check.OTHER);
        edges.refused("two SORTS ahead of BAD n", RICH, x -> x.copy(0, 6, 0, 0, 41), Check.OTHER);
        edges.refused("OTHER ahead of BAD n", RICH, x -> x.copy(0, 3, 0, 0, -1), Check.OTHER);
        edges.refused("NOTHING in q ahead of BAD i", RICH, x -> x.copy(0, 5, -1, 0, 1), Check.NOTHING);
        edges.refused("NOTHING in p ahead of BAD n", RICH, x -> x.copy(5, 0, 0, 0, -1), Check.NOTHING);
        edges.refused("NOTHING in both", RICH, x -> x.copy(5, 7, 0, 0, 0), Check.NOTHING);
        for (int p = 0; p <= 4; p++) {
            for (int q = 0; q <= 4; q++) {
                copyOfSorts(p, q);
            }
        }
    }

    private static void copyOfSorts(int p, int q) {
        if (p == q) {
            edges.fine("SORT " + p + " to itself", FULL, x -> x.copy(p, q, 0, 0, 40), 40);
        } else {
            edges.refused("SORT " + p + " to SORT " + q, FULL, x -> x.copy(p, q, 0, 0, 40), Check.OTHER);
        }
    }

    private static void element() {
        edges.of(5, "Element i of the ROW; 0: none, no ROW (nothing is refused).");
        long[] want = {1, 2, 9, 0};
        for (int i = 0; i < 4; i++) {
            int place = i;
            edges.asks("element " + i, RICH, x -> x.element(0, place), want[i]);
        }
        edges.asks("the last of forty", RICH, x -> x.element(6, 39), 1L << 40);
        int[][] none = {{0, -1}, {0, 4}, {0, Integer.MIN_VALUE}, {0, Integer.MAX_VALUE}, {6, 40}, {6, -1}, {4, 0}, {4, -1},
            {2, 0}, {2, 40}, {5, 0}, {5, -1}, {7, 0}, {-1, 0}, {8, 0}, {Integer.MIN_VALUE, 0}, {Integer.MAX_VALUE, 39}};
        for (int[] a : none) {
            edges.asks("element(" + a[0] + ", " + a[1] + ")", RICH, x -> x.element(a[0], a[1]), 0);
        }
        edges.asks("the least long", RICH, x -> x.element(6, 0), Long.MIN_VALUE);
        edges.asks("a byte below 0", RICH, x -> x.element(1, 1), -1);
    }

    private static void holds() {
        edges.of(6, "What SHELF s holds: NONE NOTHING, no SHELF; 0 to 4 a ROW by its SORT; 10 and the KIND of a RULE.");
        int[] full = {0, 1, 2, 3, 4, 14, 16, 12};
        int[] rich = {2, 0, 11, 15, 2, -1, 3, -1};
        for (int s = 0; s < 8; s++) {
            int shelf = s;
            edges.asks("SHELF " + s + " of a full one", FULL, x -> x.holds(shelf), full[s]);
            edges.asks("SHELF " + s, RICH, x -> x.holds(shelf), rich[s]);
        }
        for (int s : new int[] {-1, 8, Integer.MIN_VALUE, Integer.MAX_VALUE}) {
            edges.asks("no SHELF " + s, FULL, x -> x.holds(s), -1);
        }
        for (int kind = 1; kind <= 6; kind++) {
            int k = kind;
            edges.fine("a RULE of KIND " + kind, RICH, x -> x.rule(7, k, 0) == 1 ? x.holds(7) : Check.BAD, 10 + kind);
        }
    }

    private static void rule() {
        edges.of(7, "SHELF s holds a RULE of a KIND (1 to 6) by a: 1. BAD.");
        edges.range("s", RICH, v -> x -> x.rule(v, 1, 0), 0, 7, v -> 1);
        edges.range("kind", RICH, v -> x -> x.rule(0, v, 0), 1, 6, v -> 1);
        edges.range("kind in a full one", FULL, v -> x -> x.rule(5, v, 0), 1, 6, v -> 1);
        edges.of(7, "RULES have a KIND and a (0 to 99)");
        edges.range("a", RICH, v -> x -> x.rule(0, 1, v), 0, 99, v -> 1);
        edges.range("a, then it says", RICH, v -> x -> x.rule(2, 5, v) == 1 ? x.says(2, 0) : Check.BAD, 0, 99, v -> v);
        edges.refused("all three are BAD: one refusal", RICH, x -> x.rule(-1, 0, 100), Check.BAD);
        edges.refused("a bad RULE leaves the ROW", RICH, x -> x.rule(0, 7, 0), Check.BAD);
        EachRoadOnce x = Edges.rich();
        x.rule(6, 1, 0);
        edges.due("in place of a ROW: no element", x.element(6, 39), 0);
        edges.due("it is no ROW", x.set(6, 0, 1), Check.OTHER);
    }

    private static void says() {
        edges.of(8, "What the RULE in SHELF s, taken for one of a KIND, says: RULE its a");
        edges.asks("NEAR by 7", RICH, x -> x.says(2, 0), 7);
        edges.asks("HOME by 2", RICH, x -> x.says(3, 0), 2);
        edges.asks("FAR by 99, the most", FULL, x -> x.says(5, 0), 99);
        edges.asks("LOW by 0, the least", FULL, x -> x.says(6, 0), 0);
        edges.of(8, "BAD SHELF, KIND");
        edges.outside("s", FULL, v -> x -> x.says(v, 0), 0, 7);
        edges.outside("kind", FULL, v -> x -> x.says(5, v), 0, 6);
        edges.of(8, "others the ROAD that it would say now for one of the PEOPLE (number 0), as their first; NONE: none.");
        edges.asks("NEAR for one 0, who is at 1", RICH, x -> x.says(2, 1), 1);
        edges.asks("HOME for one 0", RICH, x -> x.says(3, 5), 1);
        Supplier<EachRoadOnce> stuck = () -> {
            EachRoadOnce x = Edges.rich();
            x.shut(1, true);
            return x;
        };
        edges.asks("NONE isn't refused", stuck, x -> x.says(2, 1), -1);
        for (int a = 0; a <= 2; a++) {
            int least = a;
            Supplier<EachRoadOnce> atHome = () -> {
                EachRoadOnce x = Check.read("road 0 1 miles 5 round;one 0;one 1");
                x.go(0, 0);
                x.go(0, 0);
                x.rule(1, 5, least);
                return x;
            };
            edges.asks("HOME by " + a + " at HOME, as the first in spite of two gone along", atHome, x -> x.says(1, 5), a == 0 ? -1 : 0);
        }
        edges.of(8, "STUCK: there are no PEOPLE (not for RULE).");
        Supplier<EachRoadOnce> nobody = () -> {
            EachRoadOnce x = new EachRoadOnce();
            x.road(0, 1, 2, false);
            x.rule(4, 6, 99);
            return x;
        };
        edges.asks("RULE without PEOPLE", nobody, x -> x.says(4, 0), 99);
        edges.refused("LOW without PEOPLE", nobody, x -> x.says(4, 6), Check.STUCK);
        edges.fine("LOW with the first of the PEOPLE", nobody, x -> x.one(0) == 0 ? x.says(4, 6) : Check.BAD, 0);
    }

    private static void saysKinds() {
        edges.of(8, "OTHER (also if it is of no such KIND nor of one under it)");
        edges.refused("NEAR taken for KEEP, which is under it", RICH, x -> x.says(2, 2), Check.OTHER);
        edges.asks("HOME taken for NEAR, which it is under by KEEP", RICH, x -> x.says(3, 1), 1);
        edges.of(8, "RULES have a KIND and a (0 to 99) and say which LEFT ROAD one takes next (NONE: none): 0 RULE; 1 NEAR, under RULE:");
        takenFor(1, 0, 1);
        edges.of(8, "2 KEEP, under NEAR:");
        takenFor(2, 0, 1, 2);
        edges.of(8, "3 NEW, under NEAR:");
        takenFor(3, 0, 1, 3);
        edges.of(8, "4 FAR, under RULE:");
        takenFor(4, 0, 4);
        edges.of(8, "5 HOME, under KEEP:");
        takenFor(5, 0, 1, 2, 5);
        edges.of(8, "6 LOW, under RULE:");
        takenFor(6, 0, 6);
    }

    /** A RULE of a KIND may be taken for each of these KINDS, and for no other. */
    private static void takenFor(int kind, int... kinds) {
        Supplier<EachRoadOnce> made = () -> {
            EachRoadOnce x = Edges.rich();
            x.rule(7, kind, 33);
            return x;
        };
        for (int as = 0; as <= 6; as++) {
            int taken = as;
            boolean is = Arrays.stream(kinds).anyMatch(i -> i == taken);
            if (is) {
                edges.asks("KIND " + kind + " taken for KIND " + as, made, x -> x.says(7, taken), as == 0 ? 33 : 1);
            } else {
                edges.refused("KIND " + kind + " taken for KIND " + as, made, x -> x.says(7, taken), Check.OTHER);
            }
        }
    }

    private static void saysOrder() {
        edges.of(8, "BAD SHELF, KIND; OTHER (also if it is of no such KIND nor of one under it); NOTHING; STUCK: there are no PEOPLE");
        edges.refused("BAD KIND ahead of OTHER", RICH, x -> x.says(0, 7), Check.BAD);
        edges.refused("BAD KIND ahead of NOTHING", RICH, x -> x.says(5, -1), Check.BAD);
        edges.refused("a ROW", RICH, x -> x.says(0, 0), Check.OTHER);
        edges.refused("a ROW of no elements", RICH, x -> x.says(4, 1), Check.OTHER);
        edges.refused("NOTHING", RICH, x -> x.says(5, 0), Check.NOTHING);
        edges.refused("NOTHING by KIND 6", RICH, x -> x.says(7, 6), Check.NOTHING);
        Supplier<EachRoadOnce> nobody = () -> {
            EachRoadOnce x = new EachRoadOnce();
            x.rule(0, 2, 0);
            x.row(1, 0, 0);
            return x;
        };
        edges.refused("BAD KIND ahead of STUCK", nobody, x -> x.says(0, 7), Check.BAD);
        edges.refused("no such KIND ahead of STUCK", nobody, x -> x.says(0, 5), Check.OTHER);
        edges.refused("a ROW ahead of STUCK", nobody, x -> x.says(1, 1), Check.OTHER);
        edges.refused("NOTHING ahead of STUCK", nobody, x -> x.says(2, 1), Check.NOTHING);
        edges.refused("STUCK by its own KIND", nobody, x -> x.says(0, 2), Check.STUCK);
        edges.refused("STUCK by a KIND above", nobody, x -> x.says(0, 1), Check.STUCK);
    }
}
