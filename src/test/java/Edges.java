import java.io.IOException;
import java.nio.file.Files;
import java.nio.file.Path;
import java.util.function.IntFunction;
import java.util.function.IntToLongFunction;
import java.util.function.Supplier;
import java.util.function.ToLongFunction;

/**
 * Either side of a boundary: the last call that is fine, the first that isn't. Each belongs to a sentence that stands in the
 * document to the letter. Two objects made alike, one of them without the call, tell whether a refused call changed anything.
 */
final class Edges {
    /** Promises whose lines have no REFUSALS. */
    private static final String NEVER_REFUSED = " 1 5 6 14 24 43 45 46 48 ";
    private static final int PROMISES = 48;
    private static final int VIEWS = 7;

    private final Check check = new Check();
    private final String document;
    private final int[] fine = new int[PROMISES + 1];
    private final int[] refused = new int[PROMISES + 1];
    private int promise;
    private String sentence = "";

    Edges() {
        try {
            document = Files.readString(Path.of("../shared/DOC.md")).replaceAll("\\s+", " ");
        } catch (IOException e) {
            throw new IllegalStateException("the document isn't there", e);
        }
    }

    /** What follows tests this sentence; a promise's number, if a term's sentence is tested by that promise's call. */
    void of(int number, String words) {
        promise = number;
        sentence = words;
        check.holds("the document says <" + words + ">", document.contains(words));
    }

    void due(String name, long got, long want) {
        check.due(label(name), got, want);
    }

    /** The call answers so and isn't counted as a refusal. */
    void fine(String name, Supplier<EachRoadOnce> made, ToLongFunction<EachRoadOnce> call, long answer) {
        EachRoadOnce x = made.get();
        int[] counts = Check.refusals(x);
        due(name, call.applyAsLong(x), answer);
        refusalsAre(name, x, counts);
        fine[promise]++;
    }

    /** The call answers so, isn't counted as a refusal, and changes nothing. */
    void asks(String name, Supplier<EachRoadOnce> made, ToLongFunction<EachRoadOnce> call, long answer) {
        fine(name, made, call, answer);
        changesNothing(name, made, call);
    }

    void refused(String name, Supplier<EachRoadOnce> made, ToLongFunction<EachRoadOnce> call, int code) {
        EachRoadOnce x = made.get();
        int[] counts = Check.refusals(x);
        due(name, call.applyAsLong(x), code);
        counts[-2 - code]++;
        refusalsAre(name, x, counts);
        changesNothing(name, made, call);
        refused[promise]++;
    }

    /** A text is refused by another number than it is counted by, and THE TAPE is empty then. */
    void fault(String name, Supplier<EachRoadOnce> made, String text, int place) {
        EachRoadOnce x = made.get();
        x.wipe();
        int[] counts = Check.refusals(x);
        due(name, Check.landOf(x, text), -20 - place);
        counts[0]++;
        refusalsAre(name, x, counts);
        due(name + ": THE TAPE is empty then", x.status(5), 0);
        ToLongFunction<EachRoadOnce> read = y -> {
            y.wipe();
            return Check.landOf(y, text);
        };
        Supplier<EachRoadOnce> wiped = () -> {
            EachRoadOnce y = made.get();
            y.wipe();
            return y;
        };
        changesNothing(name, wiped, read);
        refused[promise]++;
    }

    /** Every number from low to high is fine and answers what is due; those just outside and the farthest are BAD. */
    void range(String name, Supplier<EachRoadOnce> made, IntFunction<ToLongFunction<EachRoadOnce>> call, int low, int high,
            IntToLongFunction due) {
        for (int v = low; v <= high; v++) {
            fine(name + " " + v, made, call.apply(v), due.applyAsLong(v));
        }
        outside(name, made, call, low, high);
    }

    void outside(String name, Supplier<EachRoadOnce> made, IntFunction<ToLongFunction<EachRoadOnce>> call, int low, int high) {
        for (int v : new int[] {low - 1, high + 1, Integer.MIN_VALUE, Integer.MAX_VALUE}) {
            refused(name + " " + v, made, call.apply(v), Check.BAD);
        }
    }

    void end(String test, int... promises) {
        for (int i : promises) {
            check.holds("promise " + i + " has calls that are fine", fine[i] > 0);
            boolean never = NEVER_REFUSED.contains(" " + i + " ");
            check.holds("promise " + i + " has refused calls, if its line has REFUSALS", never == (refused[i] == 0));
        }
        check.end(test);
    }

    private String label(String name) {
        return "promise " + promise + ", <" + sentence + ">: " + name;
    }

    private void refusalsAre(String name, EachRoadOnce x, int[] want) {
        int[] got = Check.refusals(x);
        for (int i = 0; i < got.length; i++) {
            due(name + ", then status(" + (12 + i) + ")", got[i], want[i]);
        }
    }

    private void changesNothing(String name, Supplier<EachRoadOnce> made, ToLongFunction<EachRoadOnce> call) {
        for (int i = 0; i < VIEWS; i++) {
            EachRoadOnce without = made.get();
            EachRoadOnce with = made.get();
            call.applyAsLong(with);
            check.holds(label(name) + " changes nothing, view " + i, view(i, with).equals(view(i, without)));
        }
    }

    /** Each view takes an object of its own, so that its 512 calls are enough; the last two use it up. */
    private static String view(int which, EachRoadOnce x) {
        StringBuilder b = new StringBuilder();
        switch (which) {
            case 0: addStatus(b, x); break;
            case 1: addShelves(b, x, 0, 3); break;
            case 2: addShelves(b, x, 4, 7); break;
            case 3: addRoads(b, x); break;
            case 4: addPeople(b, x); break;
            case 5:
                b.append(x.land());
                addStatus(b, x);
                addPeople(b, x);
                break;
            default:
                b.append(x.back());
                addStatus(b, x);
                addPeople(b, x);
                break;
        }
        return b.toString();
    }

    private static void addStatus(StringBuilder b, EachRoadOnce x) {
        for (int what = 0; what <= 8; what++) {
            b.append(' ').append(x.status(what));
        }
    }

    private static void addShelves(StringBuilder b, EachRoadOnce x, int first, int last) {
        for (int s = first; s <= last; s++) {
            int content = x.holds(s);
            b.append('|').append(content);
            if (content > 10) {
                b.append('(').append(x.says(s, 0)).append(')');
            }
            for (int i = 0; i < 40; i++) {
                b.append(' ').append(x.element(s, i));
            }
        }
    }

    private static void addRoads(StringBuilder b, EachRoadOnce x) {
        int roads = x.status(0);
        for (int road = 0; road < roads; road++) {
            for (int what = 0; what <= 4; what++) {
                b.append(' ').append(x.roadOf(road, what));
            }
        }
    }

    private static void addPeople(StringBuilder b, EachRoadOnce x) {
        int roads = x.status(0);
        int people = x.status(1);
        for (int one = 0; one < people; one++) {
            for (int what = 0; what <= 3; what++) {
                b.append(' ').append(x.oneOf(one, what));
            }
            for (int road = 0; road < roads; road++) {
                b.append(',').append(x.when(one, road));
            }
        }
    }

    /**
     * ROADS 0-1 (5 MILES), 1-2 (7), 2-0 (3, ROUND), 3-4 (2, shut); one 0 (HOME 0, at 1 by ROAD 0 in THE YEAR 1), one 1 (HOME 2);
     * SHELVES 0 ints 1 2 9 0, 1 three bytes, 2 NEAR by 7, 3 HOME by 2, 4 no ints, 6 forty longs, 5 and 7 NOTHING; THE TAPE holds
     * "one 5"; ANEW 9, SEED 5; kept is how it was in THE YEAR 0; there were REFUSALS of the first four sorts.
     */
    static EachRoadOnce rich() {
        EachRoadOnce x = Check.read("road 0 1 miles 5;road 1 2 miles 7;road 2 0 miles 3 round;road 3 4 miles 2;one 0;one 2;shut 3");
        x.anew(9);
        x.seed(5);
        x.image();
        x.year();
        x.go(0, 0);
        Check.fill(x, 0, 2, 1, 2, 9, 0);
        Check.fill(x, 1, 0, 0, -1, 127);
        x.rule(2, 1, 7);
        x.rule(3, 5, 2);
        x.row(4, 2, 0);
        x.row(6, 3, 40);
        x.set(6, 0, Long.MIN_VALUE);
        x.set(6, 39, 1L << 40);
        x.one(8);
        x.set(2, 0, 0);
        x.set(5, 0, 0);
        x.go(0, 0);
        Check.feedByFours(x, "one 5");
        return x;
    }

    /** 16 ROADS, 6 PEOPLE, 250 bytes on THE TAPE, all SHELVES full; ROAD i is between PLACES i % 7 and 7; they are at home at 7. */
    static EachRoadOnce full() {
        EachRoadOnce x = new EachRoadOnce();
        for (int road = 0; road < 16; road++) {
            x.road(road % 7, 7, 60 - road, road >= 12);
        }
        for (int one = 0; one < 6; one++) {
            x.one(7);
        }
        for (int s = 0; s < 5; s++) {
            x.row(s, s, 40);
            x.set(s, 39, 1);
        }
        x.rule(5, 4, 99);
        x.rule(6, 6, 0);
        x.rule(7, 2, 1);
        for (int i = 0; i < 62; i++) {
            x.feed(i == 0 ? 0x616e6577 : 0x20202020, 4);
        }
        x.feed('4' << 8 | '2', 2);
        return x;
    }

    /** No ROADS, PEOPLE, SHELVES. */
    static EachRoadOnce empty() {
        return new EachRoadOnce();
    }
}
