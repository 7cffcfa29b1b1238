import java.util.function.ToLongFunction;

/** What the tests share: comparing answers, making objects with something in them, telling whether anything changed. */
final class Check {
    static final int BAD = -2;
    static final int OTHER = -3;
    static final int NOTHING = -4;
    static final int STUCK = -5;
    static final int FULL = -6;

    private int answers;
    private int wrong;

    void due(String call, long got, long want) {
        answers++;
        if (got != want) {
            wrong++;
            System.out.println(call + " answered " + got + ", due is " + want);
        }
    }

    void holds(String what, boolean is) {
        due(what, is ? 1 : 0, 1);
    }

    void end(String test) {
        System.out.println(test + ": " + answers + " answers, " + wrong + " of them wrong");
        if (wrong != 0) {
            System.exit(1);
        }
    }

    /** The call answers the code on the object, nothing changes by it, and just that sort of refusal is counted once. */
    void refused(String call, EachRoadOnce x, ToLongFunction<EachRoadOnce> made, int code) {
        refusedAs(call, x, made, code, code);
    }

    void refusedAs(String call, EachRoadOnce x, ToLongFunction<EachRoadOnce> made, int answer, int sort) {
        String ahead = picture(x);
        int[] counts = refusals(x);
        due(call, made.applyAsLong(x), answer);
        counts[-2 - sort]++;
        int[] then = refusals(x);
        for (int i = 0; i < 5; i++) {
            due(call + ", then status(" + (12 + i) + ")", then[i], counts[i]);
        }
        holds(call + " changes nothing", picture(x).equals(ahead));
    }

    /** The call answers so, and nothing at all changes by it. */
    void asks(String call, EachRoadOnce x, ToLongFunction<EachRoadOnce> made, long answer) {
        String ahead = picture(x);
        int[] counts = refusals(x);
        due(call, made.applyAsLong(x), answer);
        int[] then = refusals(x);
        for (int i = 0; i < 5; i++) {
            due(call + ", then status(" + (12 + i) + ")", then[i], counts[i]);
        }
        holds(call + " changes nothing", picture(x).equals(ahead));
    }

    static int[] refusals(EachRoadOnce x) {
        int[] counts = new int[5];
        for (int i = 0; i < 5; i++) {
            counts[i] = x.status(12 + i);
        }
        return counts;
    }

    /** All that can be asked without a refusal; of ROWS the first elements, so that an object's 512 calls are enough. */
    static String picture(EachRoadOnce x) {
        StringBuilder b = new StringBuilder();
        for (int what = 0; what <= 8; what++) {
            b.append(x.status(what)).append(' ');
        }
        for (int s = 0; s < 8; s++) {
            b.append('|').append(x.holds(s));
            for (int i = 0; i < 4; i++) {
                b.append(',').append(x.element(s, i));
            }
        }
        int roads = x.status(0);
        int people = x.status(1);
        for (int road = 0; road < roads; road++) {
            b.append("|road");
            for (int what = 0; what <= 4; what++) {
                b.append(',').append(x.roadOf(road, what));
            }
        }
        for (int one = 0; one < people; one++) {
            b.append("|one");
            for (int what = 0; what <= 3; what++) {
                b.append(',').append(x.oneOf(one, what));
            }
            for (int road = 0; road < roads; road++) {
                b.append(',').append(x.when(one, road));
            }
        }
        return b.toString();
    }

    static void feedText(EachRoadOnce x, String text) {
        for (int i = 0; i < text.length(); i++) {
            x.feed(text.charAt(i), 1);
        }
    }

    /** As feedText with fewer calls. */
    static void feedByFours(EachRoadOnce x, String text) {
        int i = 0;
        for (; i + 4 <= text.length(); i += 4) {
            x.feed(text.charAt(i) << 24 | text.charAt(i + 1) << 16 | text.charAt(i + 2) << 8 | text.charAt(i + 3), 4);
        }
        for (; i < text.length(); i++) {
            x.feed(text.charAt(i), 1);
        }
    }

    static int landOf(EachRoadOnce x, String text) {
        feedByFours(x, text);
        return x.land();
    }

    static EachRoadOnce read(String text) {
        EachRoadOnce x = new EachRoadOnce();
        if (landOf(x, text) < 0) {
            throw new IllegalStateException("the test's own land is at fault: " + text);
        }
        return x;
    }

    /**
     * Something of everything: roads 0-1 (5), 1-2 (7), 2-0 (3, round); people 0 (home 0, at 1 by road 0), 1 (home 2);
     * shelf 0 four ints, 1 three bytes, 2 NEAR, 3 HOME by 2, 4 no elements of ints; the others nothing; two bytes of tape.
     */
    static EachRoadOnce some() {
        EachRoadOnce x = read("road 0 1 miles 5;road 1 2 miles 7;road 2 0 miles 3 round;one 0;one 2");
        x.year();
        x.go(0, 0);
        x.row(0, 2, 4);
        x.set(0, 0, 1);
        x.set(0, 1, 2);
        x.set(0, 2, 9);
        x.row(1, 0, 3);
        x.rule(2, 1, 7);
        x.rule(3, 5, 2);
        x.row(4, 2, 0);
        x.feed(0x6f6e, 2);
        return x;
    }

    static void go(EachRoadOnce x, int one, int... roads) {
        for (int road : roads) {
            x.go(one, road);
        }
    }

    static void fill(EachRoadOnce x, int s, int sort, long... values) {
        x.row(s, sort, values.length);
        for (int i = 0; i < values.length; i++) {
            x.set(s, i, values[i]);
        }
    }
}
