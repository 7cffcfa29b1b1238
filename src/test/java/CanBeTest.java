/** Promises 31 to 44: what can be. */
public final class CanBeTest {
    private static final Check check = new Check();

    public static void main(String[] args) {
        law();
        all();
        way();
        lacks();
        longest();
        errands();
        cut();
        meets();
        near();
        together();
        frees();
        send();
        fast();
        wander();
        check.end("CanBeTest");
    }

    /** A triangle 0 1 2, an end 2-3, a part 5-6 twice; a round road and a shut one that count for nothing. */
    private static EachRoadOnce two() {
        return Check.read("road 0 1 miles 1;road 1 2 miles 2;road 2 0 miles 4;road 2 3 miles 8;road 5 6 miles 16;"
            + "road 6 5 miles 32;road 3 5 miles 3 round;road 3 6 miles 5;shut 7;one 2;one 7;one 3;gone 1 4;gone 2 4;gone 2 5");
    }

    private static void law() {
        int[][] want = {{12, 2, 6, 63}, {0x6c, 2, 5, 47}, {12, 1, 4, 15}};
        for (int one = 0; one < 3; one++) {
            for (int what = 0; what <= 3; what++) {
                int o = one;
                int w = what;
                check.asks("law(" + one + ", " + what + ")", two(), x -> x.law(o, w), want[one][what]);
            }
        }
        EachRoadOnce none = Check.read("one 1");
        for (int what = 0; what <= 3; what++) {
            check.due("law without roads", none.law(0, what), 0);
        }
        check.refused("law(-1)", two(), x -> x.law(-1, 0), Check.BAD);
        check.refused("law(3)", two(), x -> x.law(3, 0), Check.BAD);
        check.refused("law what -1", two(), x -> x.law(0, -1), Check.BAD);
        check.refused("law what 4", two(), x -> x.law(0, 4), Check.BAD);
    }

    private static void all() {
        check.asks("all with two parts", two(), x -> x.all(0), 0);
        check.asks("all from elsewhere", two(), x -> x.all(1), 0);
        check.asks("all in one", two(), x -> x.all(2), 1);
        EachRoadOnce ring = Check.read("road 0 1 miles 1;road 1 2 miles 2;road 2 0 miles 4;one 1;one 3;one 2;at 2 1");
        check.due("a round", ring.all(0), 2);
        check.due("a round elsewhere", ring.all(1), 0);
        check.due("a round from where one is", ring.all(2), 2);
        Check.go(ring, 0, 1);
        check.due("the rest in one", ring.all(0), 1);
        Check.go(ring, 0, 2, 0);
        check.due("none is left", ring.all(0), 2);
        check.due("where none ends", Check.read("road 0 1 miles 1;gone 0 0".replace(";", ";one 5;")).all(0), 2);
        EachRoadOnce line = Check.read("road 0 1 miles 1;road 1 2 miles 2;one 1;one 0;one 2");
        check.due("from the middle", line.all(0), 0);
        check.due("from an end", line.all(1), 1);
        check.due("from an end", line.all(2), 1);
        check.refused("all(-1)", two(), x -> x.all(-1), Check.BAD);
        check.refused("all(3)", two(), x -> x.all(3), Check.BAD);
    }

    private static void wayIs(String name, EachRoadOnce x, int one, int... roads) {
        for (int i = 0; i < roads.length; i++) {
            check.due(name + ", way " + i, x.way(one, i), roads[i]);
        }
        check.due(name + ", way behind its end", x.way(one, roads.length), Check.BAD);
    }

    private static void way() {
        wayIs("an end first", two(), 2, 3, 1, 0, 2);
        // Road 0 leads into the end, so it is the last.
        wayIs("an end last", Check.read("road 2 3 miles 1;road 0 2 miles 2;road 2 1 miles 4;road 1 0 miles 8;one 2"), 0, 1, 3, 2, 0);
        wayIs("two rings", Check.read("road 3 4 miles 1;road 0 1 miles 1;road 4 0 miles 1;road 1 2 miles 1;road 2 0 miles 1;"
            + "road 0 3 miles 1;one 0"), 0, 1, 3, 4, 2, 0, 5);
        wayIs("a skip of numbers", Check.read("road 1 2 miles 1;road 0 1 miles 1 round;road 2 1 miles 1;one 1"), 0, 0, 2);
        check.asks("way", two(), x -> x.way(2, 0), 3);
        check.refused("way(-1)", two(), x -> x.way(-1, 0), Check.BAD);
        check.refused("way(3)", two(), x -> x.way(3, 0), Check.BAD);
        check.refused("way at -1", two(), x -> x.way(2, -1), Check.BAD);
        check.refused("way at 4", two(), x -> x.way(2, 4), Check.BAD);
        check.refused("way that can't be", two(), x -> x.way(0, 0), Check.STUCK);
        check.refused("way that can't be, its last", two(), x -> x.way(0, 5), Check.STUCK);
        check.refused("way that can't be, behind its last", two(), x -> x.way(0, 6), Check.BAD);
        check.refused("way of no roads", Check.read("one 1"), x -> x.way(0, 0), Check.BAD);
    }

    private static void lacks() {
        check.asks("a part that is odd, one that isn't", two(), x -> x.lacks(0), 2);
        check.asks("two odd parts", two(), x -> x.lacks(1), 2);
        check.asks("one odd part", two(), x -> x.lacks(2), 1);
        check.due("none", Check.read("one 1").lacks(0), 0);
        check.due("one round elsewhere", Check.read("road 0 1 miles 1;road 0 1 miles 1;one 6").lacks(0), 0);
        check.due("two rounds", Check.read("road 0 1 miles 1;road 0 1 miles 1;road 2 3 miles 1;road 2 3 miles 1;one 6").lacks(0), 2);
        check.due("three rounds", Check.read("road 0 1 miles 1;road 0 1 miles 1;road 2 3 miles 1;road 2 3 miles 1;"
            + "road 4 5 miles 1;road 4 5 miles 1;one 6").lacks(0), 3);
        check.due("four single roads", Check.read("road 0 1 miles 1;road 2 3 miles 1;road 4 5 miles 1;road 6 7 miles 1;one 6").lacks(0), 4);
        check.due("a star", Check.read("road 0 1 miles 1;road 0 2 miles 1;road 0 3 miles 1;one 6").lacks(0), 2);
        check.refused("lacks(-1)", two(), x -> x.lacks(-1), Check.BAD);
        check.refused("lacks(3)", two(), x -> x.lacks(3), Check.BAD);
    }

    private static void longest() {
        int[][] want = {{4, 15, 4}, {0, 0, 1}, {4, 15, 4}};
        for (int one = 0; one < 3; one++) {
            for (int what = 0; what <= 2; what++) {
                int o = one;
                int w = what;
                check.asks("longest(" + one + ", " + what + ")", two(), x -> x.longest(o, w), want[one][what]);
            }
        }
        EachRoadOnce x = Check.read("road 0 1 miles 60;road 0 2 miles 1;road 2 0 miles 1;road 0 3 miles 1;road 3 4 miles 1;"
            + "road 4 5 miles 1;one 0");
        check.due("most roads", x.longest(0, 0), 5);
        check.due("most miles", x.longest(0, 1), 62);
        check.due("most places", x.longest(0, 2), 5);
        EachRoadOnce far = Check.read("road 5 6 miles 1;road 6 7 miles 2;one 5");
        check.due("most places far from 0", far.longest(0, 2), 3);
        EachRoadOnce many = twelve();
        check.due("twelve, roads", many.longest(0, 0), 12);
        check.due("twelve, miles", many.longest(0, 1), 720);
        check.due("twelve, places", many.longest(0, 2), 2);
        many.road(6, 7, 1, false);
        check.refused("thirteen", many, y -> y.longest(0, 0), Check.STUCK);
        EachRoadOnce again = twelve();
        again.road(6, 7, 1, false);
        Check.go(again, 0, 3);
        check.due("twelve again", again.longest(0, 0), 11);
        again.shut(12, true);
        check.due("the round one aside", again.longest(0, 2), 2);
        check.refused("longest(-1)", twelve(), y -> y.longest(-1, 0), Check.BAD);
        check.refused("longest(3)", two(), y -> y.longest(3, 0), Check.BAD);
        check.refused("longest what -1", two(), y -> y.longest(0, -1), Check.BAD);
        check.refused("longest what 3", two(), y -> y.longest(0, 3), Check.BAD);
    }

    /** Twelve ROADS between 0 and 1, and a ROUND one. */
    private static EachRoadOnce twelve() {
        EachRoadOnce x = new EachRoadOnce();
        x.one(0);
        for (int i = 0; i < 12; i++) {
            x.road(0, 1, 60, false);
        }
        x.road(0, 2, 1, true);
        return x;
    }

    private static void errands() {
        int[][] asked = {{0, 0, 1, 2}, {0, 0, 3, 1}, {0, 5, 6, 2}, {1, 5, 6, 1}, {2, 6, 5, 0}, {0, 3, 5, 0}, {0, 4, 7, 0}, {0, 3, 0, 1}};
        for (int[] a : asked) {
            check.asks("errands", two(), x -> x.errands(a[0], a[1], a[2]), a[3]);
        }
        EachRoadOnce x = new EachRoadOnce();
        x.one(7);
        for (int i = 0; i < 16; i++) {
            x.road(i % 2, 1 - i % 2, 1, false);
        }
        check.due("sixteen", x.errands(0, 0, 1), 16);
        check.due("their cut", x.cut(0, 0, 1), 1);
        check.refused("errands of -1", two(), y -> y.errands(-1, 0, 1), Check.BAD);
        check.refused("errands of 3", two(), y -> y.errands(3, 0, 1), Check.BAD);
        check.refused("errands from -1", two(), y -> y.errands(0, -1, 1), Check.BAD);
        check.refused("errands from 8", two(), y -> y.errands(0, 8, 1), Check.BAD);
        check.refused("errands to -1", two(), y -> y.errands(0, 1, -1), Check.BAD);
        check.refused("errands to 8", two(), y -> y.errands(0, 1, 8), Check.BAD);
        check.refused("errands to itself", two(), y -> y.errands(0, 1, 1), Check.BAD);
    }

    private static void cut() {
        int[][] asked = {{0, 0, 1, 1}, {0, 0, 3, 7}, {0, 3, 0, 8}, {0, 5, 6, 32}, {0, 5, 0, 0x60}, {2, 6, 5, 64}, {0, 4, 7, 16}, {0, 2, 5, 15}};
        for (int[] a : asked) {
            check.asks("cut", two(), x -> x.cut(a[0], a[1], a[2]), a[3]);
        }
        check.refused("cut of -1", two(), y -> y.cut(-1, 0, 1), Check.BAD);
        check.refused("cut of 3", two(), y -> y.cut(3, 0, 1), Check.BAD);
        check.refused("cut from -1", two(), y -> y.cut(0, -1, 1), Check.BAD);
        check.refused("cut from 8", two(), y -> y.cut(0, 8, 1), Check.BAD);
        check.refused("cut to -1", two(), y -> y.cut(0, 1, -1), Check.BAD);
        check.refused("cut to 8", two(), y -> y.cut(0, 1, 8), Check.BAD);
        check.refused("cut to itself", two(), y -> y.cut(0, 1, 1), Check.BAD);
    }

    private static void meetsOf(int one, int want, long... wants) {
        EachRoadOnce x = two();
        Check.fill(x, 4, 3, wants);
        check.asks("meets", x, y -> y.meets(one, 4, wants.length), want);
    }

    private static void meets() {
        meetsOf(0, 0);
        meetsOf(0, 1, 2);
        meetsOf(0, 3, 2, 2, 2);
        meetsOf(0, 4, 0, 1, 2, 3);
        meetsOf(0, 1, 3, 0);
        meetsOf(0, 2, 0, 2, 0, 2);
        meetsOf(0, 4, 1, 0, 2, 3, 2);
        meetsOf(0, 0, 5);
        meetsOf(0, 0, 8);
        meetsOf(0, 1, 2, -1);
        meetsOf(0, 1, 2, (1L << 32) + 2);
        meetsOf(1, 2, 7, 7, 2);
        meetsOf(2, 8, 3, 2, 1, 0, 2, 2, 2, 2);
        EachRoadOnce fewer = two();
        Check.fill(fewer, 0, 0, 0, 5, 1);
        check.due("meets of the first one", fewer.meets(0, 0, 1), 1);
        check.due("meets of the first none", fewer.meets(0, 0, 0), 0);
        EachRoadOnce many = ten();
        check.due("meets by ten roads", many.meets(0, 0, 8), 8);
        many.road(2, 3, 1, true);
        check.due("a round one aside", many.meets(0, 0, 8), 8);
        many.road(2, 3, 1, false);
        check.refused("meets by eleven roads", many, x -> x.meets(0, 0, 8), Check.STUCK);
        EachRoadOnce eleven = ten();
        eleven.road(2, 3, 1, false);
        eleven.row(1, 0, 2);
        check.due("meets by eleven roads of nothing", eleven.meets(0, 7, 8), Check.NOTHING);
        check.refused("meets of too few by eleven roads", eleven, x -> x.meets(0, 1, 3), Check.BAD);
        meetsRefusals();
    }

    /** Ten ROADS between 0 and 1, and eight wants there and back. */
    private static EachRoadOnce ten() {
        EachRoadOnce x = new EachRoadOnce();
        x.one(0);
        for (int i = 0; i < 10; i++) {
            x.road(0, 1, 1, false);
        }
        Check.fill(x, 0, 0, 1, 0, 1, 0, 1, 0, 1, 0);
        return x;
    }

    private static void meetsRefusals() {
        check.refused("meets of -1", Check.some(), x -> x.meets(-1, 2, 1), Check.BAD);
        check.refused("meets of 2", Check.some(), x -> x.meets(2, 5, 1), Check.BAD);
        check.refused("meets of no shelf", Check.some(), x -> x.meets(0, -1, 1), Check.BAD);
        check.refused("meets of no shelf", Check.some(), x -> x.meets(0, 8, 1), Check.BAD);
        check.refused("meets of -1 wants", Check.some(), x -> x.meets(0, 2, -1), Check.BAD);
        check.refused("meets of 9 wants", Check.some(), x -> x.meets(0, 5, 9), Check.BAD);
        check.refused("meets of a rule", Check.some(), x -> x.meets(0, 2, 8), Check.OTHER);
        check.refused("meets of nothing", Check.some(), x -> x.meets(0, 5, 8), Check.NOTHING);
        check.refused("meets of fewer", Check.some(), x -> x.meets(0, 0, 5), Check.BAD);
    }

    private static void near() {
        int[][] asked = {{0, 2, 0}, {0, 1, 2}, {0, 0, 3}, {0, 3, 8}, {0, 5, 11}, {0, 6, 27}, {1, 7, 0}, {2, 6, -5}, {1, 6, -5}};
        for (int[] a : asked) {
            if (a[2] < 0) {
                check.refused("near(" + a[0] + ", " + a[1] + ")", two(), x -> x.near(a[0], a[1]), Check.STUCK);
            } else {
                check.asks("near(" + a[0] + ", " + a[1] + ")", two(), x -> x.near(a[0], a[1]), a[2]);
            }
        }
        EachRoadOnce line = Check.read("road 6 7 miles 60;road 5 6 miles 60;road 4 5 miles 60;road 3 4 miles 60;"
            + "road 2 3 miles 60;road 1 2 miles 60;road 0 1 miles 60;one 0;one 7");
        check.due("all along", line.near(0, 7), 420);
        check.due("all along", line.near(1, 0), 420);
        check.refused("near of -1", two(), x -> x.near(-1, 0), Check.BAD);
        check.refused("near of 3", two(), x -> x.near(3, 0), Check.BAD);
        check.refused("near to -1", two(), x -> x.near(0, -1), Check.BAD);
        check.refused("near to 8", two(), x -> x.near(0, 8), Check.BAD);
    }

    private static void together() {
        // One 0 is at 2, one 2 at 3, from where 4 and 5 are gone along: 3 and 5 by the round one.
        int[] want = {0x2f, 8, 2};
        for (int what = 0; what <= 2; what++) {
            int w = what;
            check.asks("together, what " + what, two(), x -> x.together(0, 2, w), want[what]);
            check.asks("together turned, what " + what, two(), x -> x.together(2, 0, w), want[what]);
        }
        check.asks("together of those who can't", two(), x -> x.together(0, 1, 0), 0);
        check.refused("the sum of those who can't", two(), x -> x.together(0, 1, 1), Check.STUCK);
        check.refused("the place of those who can't", two(), x -> x.together(0, 1, 2), Check.STUCK);
        EachRoadOnce own = Check.read("road 0 1 miles 5;road 1 2 miles 5;road 0 2 miles 30;one 0;one 2;gone 0 0;gone 1 1");
        check.due("each by their own", own.together(0, 1, 1), 30);
        check.due("of several the first", own.together(0, 1, 2), 0);
        check.due("where both are", Check.read("one 4;one 4").together(0, 1, 2), 4);
        check.refused("together of -1", two(), x -> x.together(-1, 0, 0), Check.BAD);
        check.refused("together of 3", two(), x -> x.together(3, 0, 0), Check.BAD);
        check.refused("together with -1", two(), x -> x.together(0, -1, 0), Check.BAD);
        check.refused("together with 3", two(), x -> x.together(0, 3, 0), Check.BAD);
        check.refused("together with themselves", two(), x -> x.together(1, 1, 1), Check.BAD);
        check.refused("together what -1", two(), x -> x.together(0, 1, -1), Check.BAD);
        check.refused("together what 3", two(), x -> x.together(0, 1, 3), Check.BAD);
    }

    private static void frees() {
        check.asks("frees at home", two(), x -> x.frees(0), 0x6b);
        check.asks("frees without roads", two(), x -> x.frees(1), 0);
        EachRoadOnce x = Check.read("road 0 1 miles 1;road 1 2 miles 1 round;road 3 4 miles 1;one 0;at 0 4");
        check.due("frees one who isn't safe", x.frees(0), 7);
        x.shut(1, true);
        check.due("frees by what is open", x.frees(0), 3);
        check.refused("frees(-1)", two(), y -> y.frees(-1), Check.BAD);
        check.refused("frees(3)", two(), y -> y.frees(3), Check.BAD);
    }

    private static void send() {
        EachRoadOnce x = Check.read("road 0 1 miles 1;road 1 2 miles 1;road 2 0 miles 1 round;one 0;one 1;one 1;one 2;gone 1 0;gone 3 2");
        check.due("the first to whom it is left", x.send(0, 0), 2);
        check.due("not they themselves", x.send(2, 0), 0);
        check.due("the first of the others", x.send(1, 1), 2);
        check.due("the first", x.send(3, 1), 1);
        check.due("a round one", x.send(0, 2), 3);
        check.due("nobody", x.send(3, 2), 0);
        x.shut(2, true);
        check.asks("nobody for a shut one", x, y -> y.send(0, 2), -1);
        x.one(4);
        x.one(4);
        check.due("nobody of all six", x.send(0, 2), -1);
        check.refused("send for -1", two(), y -> y.send(-1, 0), Check.BAD);
        check.refused("send for 3", two(), y -> y.send(3, 0), Check.BAD);
        check.refused("send along -1", two(), y -> y.send(0, -1), Check.BAD);
        check.refused("send along 8", two(), y -> y.send(0, 8), Check.BAD);
    }

    private static void fast() {
        EachRoadOnce x = Check.read("road 0 1 miles 1;road 2 3 miles 1;one 0;one 7;one 2;one 0;one 0;gone 3 0;at 4 3");
        check.asks("stuck fast", x, y -> y.fast(false), 10);
        check.asks("not safe", x, y -> y.fast(true), 16);
        Check.go(x, 0, 0);
        Check.go(x, 2, 1);
        check.due("stuck fast", x.fast(false), 15);
        check.due("not safe", x.fast(true), 21);
        check.due("without people", new EachRoadOnce().fast(false), 0);
        check.due("without people", new EachRoadOnce().fast(true), 0);
    }

    private static void wander() {
        EachRoadOnce x = Check.read("road 0 1 miles 1 round;road 0 1 miles 2;road 1 2 miles 3 round;road 0 2 miles 4;"
            + "road 2 3 miles 5 round;one 0");
        EachRoadOnce y = Check.read("road 0 1 miles 1 round;road 0 1 miles 2;road 1 2 miles 3 round;road 0 2 miles 4;"
            + "road 2 3 miles 5 round;one 0");
        x.seed(-77);
        int seed = -77;
        check.due("wander", x.wander(0, 60), 60);
        for (int i = 0; i < 60; i++) {
            int roads = y.here(0);
            seed = seed * 1103515245 + 12345;
            int k = (seed >>> 16) % Integer.bitCount(roads);
            for (; k > 0; k--) {
                roads &= roads - 1;
            }
            y.go(0, Integer.numberOfTrailingZeros(roads));
        }
        check.due("the seed then", x.status(6), seed);
        y.seed(seed);
        check.holds("by the same roads", Check.picture(x).equals(Check.picture(y)));
        EachRoadOnce line = Check.read("road 0 1 miles 1;road 1 2 miles 1;one 0");
        check.due("wander till stuck fast", line.wander(0, 60), 2);
        check.due("two draws", line.status(6), (1103515245 + 12345) * 1103515245 + 12345);
        check.due("where", line.oneOf(0, 1), 2);
        check.due("stuck fast", line.wander(0, 1), 0);
        check.due("without a draw", line.status(6), (1103515245 + 12345) * 1103515245 + 12345);
        check.due("not further than told", Check.read("road 0 1 miles 1;road 1 2 miles 1;one 0").wander(0, 1), 1);
        check.refused("wander of -1", two(), z -> z.wander(-1, 1), Check.BAD);
        check.refused("wander of 3", two(), z -> z.wander(3, 1), Check.BAD);
        check.refused("wander 0", two(), z -> z.wander(0, 0), Check.BAD);
        check.refused("wander 61", two(), z -> z.wander(0, 61), Check.BAD);
    }
}
