import java.util.Random;

/** What the document's sentences say of two calls at once: in lands by draws one call's answer follows from the others'. */
public final class AgreementTest {
    private static final Check check = new Check();
    private static final int LANDS = 500;

    private final Random draws;
    private final String name;
    private final String text;
    private final int years;

    private AgreementTest(int number) {
        draws = new Random(number);
        name = "land " + number;
        years = draws.nextInt(3);
        text = landByDraws();
    }

    public static void main(String[] args) {
        for (int number = 0; number < LANDS; number++) {
            AgreementTest test = new AgreementTest(number);
            for (int one = 0; one < 3; one++) {
                test.safeAndFast(one);
                test.frees(one);
                test.nearAndTogether(one);
                test.runIsLives(one);
                test.headIsMost(one);
                test.wayIsToldLife(one);
                test.cutParts(one);
                test.meetsGrows(one);
            }
            if (number % 5 == 0) {
                test.lacks();
            }
        }
        check.end("AgreementTest");
    }

    private String landByDraws() {
        int places = 3 + draws.nextInt(6);
        int roads = 2 + draws.nextInt(7);
        StringBuilder b = new StringBuilder("one 0;one 1;one 2;anew 2");
        for (int road = 0; road < roads; road++) {
            int a = draws.nextInt(places);
            int c = (a + 1 + draws.nextInt(places - 1)) % places;
            b.append(";road").append(a).append(' ').append(c).append("miles").append(1 + draws.nextInt(20));
            b.append(draws.nextInt(5) == 0 ? "round" : "");
        }
        for (int one = 0; one < 3; one++) {
            b.append(";at").append(one).append(' ').append(draws.nextInt(places));
            b.append(";gone").append(one).append(' ').append(draws.nextInt(roads));
        }
        return b.append(draws.nextInt(3) == 0 ? ";shut0" : "").toString();
    }

    private EachRoadOnce made() {
        EachRoadOnce x = Check.read(text);
        for (int i = 0; i < years; i++) {
            x.year();
        }
        for (int kind = 1; kind <= 6; kind++) {
            x.rule(kind, kind, 2);
        }
        return x;
    }

    private void due(String what, long got, long want) {
        check.due(name + " <" + text + ">, " + what, got, want);
    }

    private void safeAndFast(int one) {
        EachRoadOnce x = made();
        int home = x.oneOf(one, 0);
        due("SAFE: HOME is in REACH", x.safe(one), x.reach(one) >> home & 1);
        due("who isn't SAFE", x.fast(true) >> one & 1, 1 - x.safe(one));
        due("who is STUCK FAST", x.fast(false) >> one & 1, x.here(one) == 0 ? 1 : 0);
        int here = 0;
        int once = 0;
        for (int road = 0; road < x.status(0); road++) {
            boolean left = (x.left(one) >> road & 1) == 1;
            boolean there = x.roadOf(road, 0) == x.oneOf(one, 1) || x.roadOf(road, 1) == x.oneOf(one, 1);
            here |= left && there ? 1 << road : 0;
            once += left && x.roadOf(road, 4) == 0 ? 1 : 0;
        }
        due("LEFT at the PLACE", x.here(one), here);
        due("how many such ROADS", x.law(one, 2), once);
    }

    /** A ROAD built to a PLACE makes one who isn't SAFE so, just if FREES has it. */
    private void frees(int one) {
        int frees = made().frees(one);
        for (int place = 0; place < 8; place++) {
            EachRoadOnce x = made();
            int there = x.oneOf(one, 1);
            if (x.safe(one) == 0 && place != there) {
                x.road(there, place, 1, false);
                due("a ROAD built to " + place + " frees one " + one, x.safe(one), frees >> place & 1);
            }
        }
        due("not where one is", frees >> made().oneOf(one, 1) & 1, 0);
    }

    private void nearAndTogether(int one) {
        int other = (one + 1) % 3;
        EachRoadOnce x = made();
        int least = Check.STUCK;
        int first = Check.STUCK;
        int both = 0;
        for (int place = 0; place < 8; place++) {
            int mine = x.near(one, place);
            int theirs = x.near(other, place);
            due("STUCK: " + place + " isn't in REACH", mine == Check.STUCK ? 0 : 1, x.reach(one) >> place & 1);
            if (mine >= 0 && theirs >= 0) {
                both |= 1 << place;
                if (first < 0 || mine + theirs < least) {
                    least = mine + theirs;
                    first = place;
                }
            }
        }
        due("TOGETHER", x.together(one, other, 0), both);
        due("the least sum", x.together(one, other, 1), least);
        due("the first PLACE of it", x.together(one, other, 2), first);
    }

    /** What a RUN tells comes true, if it is gone along in truth; each step is what next() says, but for HOME's count. */
    private void runIsLives(int one) {
        for (int s = 1; s <= 6; s++) {
            int n = draws.nextInt(12);
            EachRoadOnce x = made();
            int[] told = new int[5];
            for (int what = 0; what <= 4; what++) {
                told[what] = x.run(s, one, n, what);
            }
            int miles = 0;
            EachRoadOnce steps = made();
            for (int i = 0; s != 5 && i < told[0]; i++) {
                int road = steps.next(s, one);
                miles += steps.roadOf(road, 2);
                steps.go(one, road);
            }
            int ahead = x.oneOf(one, 3);
            due("lives by " + s, x.lives(s, one, n), told[0]);
            due("how many they have gone along by " + s, x.oneOf(one, 3), ahead + told[0]);
            due("the PLACE by " + s, x.oneOf(one, 1), told[2]);
            due("PLACES BEEN by " + s, x.oneOf(one, 2), told[3]);
            due("SAFE by " + s, x.safe(one), told[4]);
            if (s != 5) {
                due("MILES by " + s, told[1], miles);
                due("step by step by " + s, steps.oneOf(one, 1), told[2]);
            }
        }
    }

    private void headIsMost(int one) {
        EachRoadOnce x = made();
        int best = 1;
        for (int s = 2; s <= 6; s++) {
            best = x.run(s, one, 60, 0) > x.run(best, one, 60, 0) ? s : best;
        }
        due("head", x.head(one), best);
    }

    private void wayIsToldLife(int one) {
        EachRoadOnce x = made();
        int count = x.law(one, 2);
        int all = x.all(one);
        int odd = Integer.bitCount(x.law(one, 0));
        due("no round with ODD PLACES, no way with more than two", all == 2 && odd != 0 || all == 1 && odd != 2 ? 1 : 0, 0);
        if (count > 0) {
            due("STUCK: they can't", x.way(one, 0) == Check.STUCK ? 1 : 0, all == 0 ? 1 : 0);
        }
        if (count > 0 && all != 0) {
            x.row(0, 0, count);
            for (int i = 0; i < count; i++) {
                x.set(0, i, x.way(one, i));
            }
            due("THE WAY can be gone along", x.judge(one, 0, count), -1);
            due("all MILES", x.told(one, 0, count, 1), x.law(one, 3));
            due("to a round", x.told(one, 0, count, 0) == x.oneOf(one, 1) ? 2 : 1, all);
            due("so it is the LONGEST", x.longest(one, 0), count);
            due("and the one of the most MILES", x.longest(one, 1), x.law(one, 3));
            due("and of the most PLACES", x.longest(one, 2), Integer.bitCount(x.told(one, 0, count, 2)));
        }
    }

    /** As many ROADS leave the CUT as there are ERRANDS; with them shut there are none. */
    private void cutParts(int one) {
        int from = draws.nextInt(8);
        int to = (from + 1 + draws.nextInt(7)) % 8;
        EachRoadOnce x = made();
        int errands = x.errands(one, from, to);
        int cut = x.cut(one, from, to);
        int once = x.left(one);
        due("with A", cut >> from & 1, 1);
        due("without B", cut >> to & 1, 0);
        int leaving = 0;
        for (int road = 0; road < x.status(0); road++) {
            boolean leaves = (cut >> x.roadOf(road, 0) & 1) != (cut >> x.roadOf(road, 1) & 1);
            if (leaves && (once >> road & 1) == 1 && x.roadOf(road, 4) == 0) {
                leaving++;
                x.shut(road, true);
                due("one fewer", x.errands(one, from, to), errands - leaving);
            }
        }
        due("just so many", leaving, errands);
        due("from B as many", made().errands(one, to, from), errands);
    }

    private void meetsGrows(int one) {
        EachRoadOnce x = made();
        x.row(0, 2, 8);
        for (int i = 0; i < 8; i++) {
            x.set(0, i, i == 0 && draws.nextInt(4) == 0 ? 8 : draws.nextInt(4));
        }
        int all = x.meets(one, 0, 8);
        for (int n = 0; n <= 8; n++) {
            due("the first " + n + " wants", x.meets(one, 0, n), Math.min(n, all));
        }
        if (all < 8 && all >= 0) {
            x.set(0, all, 9);
            due("a want that can't be met in place of one that wasn't", x.meets(one, 0, 8), all);
        }
    }

    private boolean roundWith(EachRoadOnce x) {
        for (int place = 0; place < 8; place++) {
            Check.landOf(x, "at 0 " + place);
            if (x.all(0) == 2) {
                return true;
            }
        }
        return false;
    }

    /** Whether a round can be had by building so many ROADS, tried out one by one; a pair is two PLACES, 8 times the one and the other. */
    private boolean canWith(int built, int firstPair, int[] pairs) {
        if (built == pairs.length) {
            EachRoadOnce x = made();
            for (int pair : pairs) {
                x.road(pair / 8, pair % 8, 1, false);
            }
            return roundWith(x);
        }
        for (int pair = firstPair; pair < 64; pair++) {
            pairs[built] = pair;
            if (pair / 8 < pair % 8 && canWith(built + 1, pair, pairs)) {
                return true;
            }
        }
        return false;
    }

    private void lacks() {
        int lacks = made().lacks(0);
        if (lacks > 2) {
            return;
        }
        due("LACKS can be built", canWith(0, 0, new int[lacks]) ? 1 : 0, 1);
        if (lacks > 0) {
            due("one fewer isn't enough", canWith(0, 0, new int[lacks - 1]) ? 1 : 0, 0);
        }
    }
}
