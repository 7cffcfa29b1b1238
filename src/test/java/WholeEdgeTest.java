import java.util.function.Supplier;
import java.util.function.ToLongFunction;

/** Promises 45 to 48, sentence by sentence, and what the document says of all REFUSALS. */
public final class WholeEdgeTest {
    private static final Edges edges = new Edges();
    private static final Supplier<EachRoadOnce> EMPTY = Edges::empty;
    private static final Supplier<EachRoadOnce> RICH = Edges::rich;
    private static final Supplier<EachRoadOnce> FULL = Edges::full;

    public static void main(String[] args) {
        seed();
        image();
        keptIsAll();
        notKept();
        back();
        status();
        statusFull();
        statusRefusals();
        edges.end("WholeEdgeTest", 45, 46, 47, 48);
    }

    private static void seed() {
        edges.of(45, "SEED becomes v: the one ahead.");
        edges.fine("1 at first", EMPTY, x -> x.seed(7), 1);
        edges.fine("the one ahead", RICH, x -> x.seed(7), 5);
        edges.asks("the same again", RICH, x -> x.seed(5), 5);
        int[] seeds = {Integer.MIN_VALUE, -1, 0, 1, Integer.MAX_VALUE};
        EachRoadOnce x = new EachRoadOnce();
        int ahead = 1;
        for (int v : seeds) {
            edges.due("seed(" + v + ")", x.seed(v), ahead);
            edges.due("SEED", x.status(6), v);
            ahead = v;
        }
        edges.of(45, "an int, wrapping");
        EachRoadOnce y = Check.read("road 0 1 miles 1 round;one 0");
        y.seed(Integer.MAX_VALUE);
        y.wander(0, 1);
        edges.due("the greatest, behind a DRAW", y.seed(Integer.MIN_VALUE), (int) (Integer.MAX_VALUE * 1103515245L + 12345L));
        y.wander(0, 1);
        edges.due("the least, behind a DRAW", y.seed(0), (int) (Integer.MIN_VALUE * 1103515245L + 12345L));
        y.wander(0, 1);
        edges.due("0, behind a DRAW", y.seed(0), 12345);
    }

    private static void image() {
        edges.of(46, "All is kept, but THE TAPE, SHELVES and REFUSALS in status(): 1.");
        edges.fine("of an empty one", EMPTY, x -> x.image(), 1);
        edges.fine("of a full one", FULL, x -> x.image(), 1);
        edges.fine("a second time", RICH, x -> x.image(), 1);
        edges.fine("of an empty one, and back", EMPTY, x -> x.image() == 1 && x.one(3) == 0 && x.back() == 1 ? x.status(1) : Check.BAD, 0);
        edges.fine("of a full one, and back", FULL, x -> x.image() == 1 && x.go(5, 15) == 1 && x.back() == 1 ? x.oneOf(5, 1) : Check.BAD, 7);
        edges.fine("the later one counts", RICH, x -> x.year() == 2 && x.image() == 1 && x.year() == 3 && x.back() == 1 ? x.status(2) : Check.BAD, 2);
    }

    /** The change comes, is told by the question, and is gone behind back(). */
    private static void comesAndGoes(String name, ToLongFunction<EachRoadOnce> change, ToLongFunction<EachRoadOnce> question) {
        EachRoadOnce x = Edges.rich();
        x.image();
        long ahead = question.applyAsLong(x);
        change.applyAsLong(x);
        edges.due(name + " comes", question.applyAsLong(x) != ahead ? 1 : 0, 1);
        edges.due(name + ", back", x.back(), 1);
        edges.due(name + " goes", question.applyAsLong(x), ahead);
        change.applyAsLong(x);
        x.back();
        edges.due(name + " goes again", question.applyAsLong(x), ahead);
    }

    private static void keptIsAll() {
        edges.of(46, "All is kept");
        comesAndGoes("a ROAD", x -> x.road(5, 6, 7, true), x -> x.status(0));
        comesAndGoes("one more", x -> x.one(5), x -> x.status(1));
        comesAndGoes("a YEAR", x -> x.year(), x -> x.status(2));
        comesAndGoes("ANEW", x -> x.anew(0), x -> x.status(3));
        comesAndGoes("ROADS gone along in all", x -> x.go(0, 1), x -> x.status(4));
        comesAndGoes("SEED", x -> x.seed(-1), x -> x.status(6));
        comesAndGoes("SEED by a DRAW", x -> x.wander(0, 1), x -> x.status(6));
        comesAndGoes("shut ROADS", x -> x.shut(0, true), x -> x.status(8));
        comesAndGoes("an open ROAD", x -> x.shut(3, false), x -> x.roadOf(3, 3));
        comesAndGoes("PLACE", x -> x.go(0, 1), x -> x.oneOf(0, 1));
        comesAndGoes("BEEN", x -> x.go(0, 1), x -> x.oneOf(0, 2));
        comesAndGoes("ROADS that one has gone along", x -> x.go(1, 2), x -> x.oneOf(1, 3));
        comesAndGoes("when", x -> x.go(1, 1), x -> x.when(1, 1));
        comesAndGoes("what is LEFT", x -> x.lives(2, 0, 1), x -> x.left(0));
        comesAndGoes("a LAND", x -> x.wipe() + Check.landOf(x, "one 3;at 1 7"), x -> x.oneOf(1, 1));
        EachRoadOnce x = Edges.rich();
        x.image();
        x.road(5, 6, 60, true);
        x.one(5);
        x.go(2, 4);
        x.back();
        edges.due("ROAD 4 isn't there", x.roadOf(4, 0), Check.BAD);
        edges.due("one 2 isn't there", x.oneOf(2, 0), Check.BAD);
        edges.due("another ROAD of that number", x.road(1, 2, 3, false), 4);
        edges.due("it isn't ROUND", x.roadOf(4, 4), 0);
        edges.due("another one of that number", x.one(1), 2);
        edges.due("who has gone along nothing", x.oneOf(2, 3), 0);
        edges.due("nor BEEN elsewhere", x.oneOf(2, 2), 2);
        edges.due("nor along that ROAD", x.when(2, 4), -1);
    }

    private static void notKept() {
        edges.of(46, "but THE TAPE, SHELVES and REFUSALS in status()");
        EachRoadOnce x = Edges.rich();
        x.image();
        x.feed(' ', 1);
        x.row(0, 0, 5);
        x.set(6, 5, 55);
        x.rule(7, 6, 66);
        x.row(2, 1, 1);
        int[] counts = Check.refusals(x);
        x.one(8);
        x.go(0, 0);
        edges.due("back", x.back(), 1);
        edges.due("THE TAPE stays", x.status(5), 6);
        edges.due("a ROW stays", x.holds(0), 0);
        edges.due("an element stays", x.element(6, 5), 55);
        edges.due("a RULE stays", x.holds(7), 16);
        edges.due("its a stays", x.says(7, 0), 66);
        edges.due("a ROW in place of a RULE stays", x.holds(2), 1);
        edges.due("BAD stays", x.status(12), counts[0] + 1);
        edges.due("STUCK stays", x.status(15), counts[3] + 1);
        edges.due("THE TAPE's bytes stay", x.land(), 1);
        edges.due("a wiped TAPE", x.feed('x', 1), 1);
        x.image();
        x.wipe();
        x.back();
        edges.due("stays wiped", x.status(5), 0);
    }

    private static void back() {
        edges.of(47, "All is again as it was kept: 1. STUCK: nothing was.");
        edges.refused("nothing was", EMPTY, x -> x.back(), Check.STUCK);
        edges.refused("nothing was, of a full one", FULL, x -> x.back(), Check.STUCK);
        edges.refused("nothing was, a second time", FULL, x -> x.back(), Check.STUCK);
        edges.fine("what was kept", RICH, x -> x.back(), 1);
        edges.fine("THE YEAR then", RICH, x -> x.back() == 1 ? x.status(2) : Check.BAD, 0);
        edges.fine("a second time", RICH, x -> x.back() == 1 ? x.back() : Check.BAD, 1);
        edges.fine("once something is kept", EMPTY, x -> x.image() == 1 ? x.back() : Check.BAD, 1);
        edges.asks("at once behind image()", () -> {
            EachRoadOnce x = Edges.full();
            x.image();
            return x;
        }, x -> x.back(), 1);
    }

    private static void status() {
        edges.of(48, "ROADS (0), PEOPLE (1), THE YEAR (2), ANEW (3), how many ROADS were gone along in all (4), THE TAPE's size (5), SEED (6), "
            + "SHELVES that hold something (7), shut ROADS (8); 12 to 16: REFUSALS -2 to -6. NONE another what.");
        int[] rich = {4, 2, 1, 9, 1, 5, 5, 6, 1, -1, -1, -1, 1, 1, 1, 1, 0, -1};
        int[] full = {16, 6, 0, 0, 0, 250, 1, 8, 0, -1, -1, -1, 0, 0, 0, 0, 0, -1};
        int[] empty = {0, 0, 0, 0, 0, 0, 1, 0, 0, -1, -1, -1, 0, 0, 0, 0, 0, -1};
        for (int what = 0; what <= 17; what++) {
            int w = what;
            edges.asks("status(" + what + ")", RICH, x -> x.status(w), rich[what]);
            edges.asks("status(" + what + ") of a full one", FULL, x -> x.status(w), full[what]);
            edges.asks("status(" + what + ") of an empty one", EMPTY, x -> x.status(w), empty[what]);
        }
        for (int what : new int[] {-1, Integer.MIN_VALUE, 17, 18, 100, Integer.MAX_VALUE, -12, -2}) {
            edges.asks("status(" + what + "): NONE isn't refused", RICH, x -> x.status(what), -1);
        }
    }

    private static void statusFull() {
        edges.of(48, "how many ROADS were gone along in all (4)");
        EachRoadOnce x = Edges.full();
        int gone = 0;
        for (int one = 0; one < 6; one++) {
            x.go(one, one);
            edges.due("by each of six", x.status(4), ++gone);
        }
        edges.of(48, "SHELVES that hold something (7), shut ROADS (8)");
        EachRoadOnce y = new EachRoadOnce();
        for (int s = 7; s >= 0; s--) {
            if (s % 2 == 0) {
                y.row(s, 0, 0);
            } else {
                y.rule(s, 1, 0);
            }
            edges.due("SHELVES, a ROW of no elements, too", y.status(7), 8 - s);
        }
        y.row(3, 1, 40);
        edges.due("one that held something already", y.status(7), 8);
        for (int road = 0; road < 16; road++) {
            x.shut(road, true);
            edges.due("shut ROADS", x.status(8), road + 1);
        }
        x.shut(0, true);
        edges.due("one that was shut already", x.status(8), 16);
        x.shut(15, false);
        edges.due("the last opened", x.status(8), 15);
    }

    private static void statusRefusals() {
        edges.of(48, "12 to 16: REFUSALS -2 to -6.");
        EachRoadOnce x = Edges.full();
        for (int i = 1; i <= 3; i++) {
            edges.due("BAD", x.one(9), Check.BAD);
            edges.due("OTHER", x.next(0, 0), Check.OTHER);
            edges.due("STUCK", x.back(), Check.STUCK);
            edges.due("FULL", x.one(0), Check.FULL);
            edges.due("status(12)", x.status(12), i);
            edges.due("status(13)", x.status(13), i);
            edges.due("status(14)", x.status(14), 0);
            edges.due("status(15)", x.status(15), i);
            edges.due("status(16)", x.status(16), i);
        }
        EachRoadOnce y = Edges.empty();
        edges.due("NOTHING", y.set(0, 0, 0), Check.NOTHING);
        edges.due("status(14)", y.status(14), 1);
        edges.due("a FAULT", y.land(), -20);
        edges.due("is BAD", y.status(12), 1);
        edges.of(48, "-2 BAD a number that may not be, nothing of that number. -3 OTHER: a SHELF that holds another thing than is wanted. "
            + "-4 NOTHING: a SHELF that holds NOTHING. -5 STUCK: it can't be as things stand. -6 FULL.");
        edges.due("a number that may not be", Edges.rich().anew(100), -2);
        edges.due("nothing of that number", Edges.rich().left(2), -2);
        edges.due("another thing than is wanted", Edges.rich().set(2, 0, 0), -3);
        edges.due("holds NOTHING", Edges.rich().set(5, 0, 0), -4);
        edges.due("as things stand", Edges.rich().go(0, 0), -5);
        edges.due("full", Edges.full().one(0), -6);
        edges.of(48, "REFUSALS (the call answers the number; nothing changes but how many there were; the first that fits as each line has them");
        edges.due("first BAD, though it is FULL", Edges.full().one(8), -2);
        edges.due("then FULL", Edges.full().one(7), -6);
    }
}
