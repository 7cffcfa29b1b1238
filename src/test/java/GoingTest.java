/** Promises 19 to 30: what is left, going, rules and runs, told lives. */
public final class GoingTest {
    private static final Check check = new Check();

    public static void main(String[] args) {
        left();
        here();
        reach();
        safe();
        go();
        year();
        next();
        keep();
        home();
        run();
        head();
        lives();
        judge();
        told();
        check.end("GoingTest");
    }

    private static void left() {
        check.asks("left(0)", Check.some(), x -> x.left(0), 6);
        check.asks("left(1)", Check.some(), x -> x.left(1), 7);
        check.refused("left(-1)", Check.some(), x -> x.left(-1), Check.BAD);
        check.refused("left(2)", Check.some(), x -> x.left(2), Check.BAD);
        EachRoadOnce x = Check.some();
        Check.go(x, 1, 2, 2);
        check.due("a round one stays left", x.left(1), 7);
        x.shut(2, true);
        check.due("but not a shut one", x.left(1), 3);
    }

    private static void here() {
        check.asks("here(0)", Check.some(), x -> x.here(0), 2);
        check.asks("here(1)", Check.some(), x -> x.here(1), 6);
        check.refused("here(-1)", Check.some(), x -> x.here(-1), Check.BAD);
        check.refused("here(2)", Check.some(), x -> x.here(2), Check.BAD);
    }

    private static void reach() {
        check.asks("reach(0)", Check.some(), x -> x.reach(0), 7);
        check.refused("reach(-1)", Check.some(), x -> x.reach(-1), Check.BAD);
        check.refused("reach(2)", Check.some(), x -> x.reach(2), Check.BAD);
        EachRoadOnce x = Check.read("road 6 7 miles 1;road 5 6 miles 1;road 4 5 miles 1;road 3 4 miles 1;road 2 3 miles 1;"
            + "road 1 2 miles 1;road 0 1 miles 1;one 0;one 7;one 4");
        check.due("a long line", x.reach(0), 255);
        check.due("a long line from its other end", x.reach(1), 255);
        Check.go(x, 2, 2);
        check.due("behind what was gone along", x.reach(2), 0xe0);
        x.shut(1, true);
        check.due("up to what is shut", x.reach(2), 1 << 5);
        check.due("up to what is shut", x.reach(0), 0x3f);
    }

    private static void safe() {
        check.asks("safe by another way", Check.some(), x -> x.safe(0), 1);
        check.asks("safe at home", Check.some(), x -> x.safe(1), 1);
        check.refused("safe(-1)", Check.some(), x -> x.safe(-1), Check.BAD);
        check.refused("safe(2)", Check.some(), x -> x.safe(2), Check.BAD);
        EachRoadOnce x = Check.some();
        x.shut(1, true);
        check.due("not safe", x.safe(0), 0);
        check.due("the others are", x.safe(1), 1);
    }

    private static void go() {
        EachRoadOnce x = Check.some();
        check.due("go", x.go(0, 1), 2);
        check.due("go", x.go(0, 2), 0);
        check.due("go round", x.go(0, 2), 2);
        check.due("where", x.oneOf(0, 1), 2);
        check.due("been", x.oneOf(0, 2), 7);
        check.due("how many", x.oneOf(0, 3), 4);
        check.due("in all", x.status(4), 4);
        check.due("when", x.when(0, 2), 1);
        check.due("the other one is where they were", x.oneOf(1, 1), 2);
        check.due("the other one too", x.go(1, 1), 1);
        check.due("in all", x.status(4), 5);
        check.refused("go of -1", Check.some(), y -> y.go(-1, 0), Check.BAD);
        check.refused("go of 2", Check.some(), y -> y.go(2, 0), Check.BAD);
        check.refused("go along -1", Check.some(), y -> y.go(0, -1), Check.BAD);
        check.refused("go along 3", Check.some(), y -> y.go(0, 3), Check.BAD);
        check.refused("go along it again", Check.some(), y -> y.go(0, 0), Check.STUCK);
        check.refused("go along one elsewhere", Check.some(), y -> y.go(0, 2), Check.STUCK);
        EachRoadOnce z = Check.some();
        z.shut(1, true);
        check.refused("go along a shut one", z, y -> y.go(0, 1), Check.STUCK);
    }

    private static void year() {
        EachRoadOnce x = new EachRoadOnce();
        for (int i = 1; i <= 100; i++) {
            check.due("year", x.year(), i);
        }
        check.due("the year", x.status(2), 100);
    }

    /** At 0, which is home; been at 0 and 2. Roads of 4, 2, 2, 9 and 9 miles to 1, 2, 3, 3 and 1; 2-3 by road 5. */
    private static EachRoadOnce star() {
        EachRoadOnce x = Check.read("road 0 1 miles 4;road 0 2 miles 2;road 3 0 miles 2;road 0 3 miles 9;road 1 0 miles 9;"
            + "one 2;one 0;at 1 2;at 1 0");
        for (int kind = 1; kind <= 6; kind++) {
            x.rule(kind, kind, 1);
        }
        x.row(7, 0, 1);
        return x;
    }

    private static void next() {
        // Behind 1 there is no way home; behind 2, 0, 3 and 4 there is.
        int[] want = {0, 1, 2, 2, 3, 2, 0};
        for (int kind = 1; kind <= 6; kind++) {
            int s = kind;
            check.asks("next of kind " + kind, star(), x -> x.next(s, 1), want[kind]);
        }
        check.refused("next of no shelf", star(), x -> x.next(-1, 1), Check.BAD);
        check.refused("next of no shelf", star(), x -> x.next(8, 1), Check.BAD);
        check.refused("next of nobody", star(), x -> x.next(7, 2), Check.BAD);
        check.refused("next of nobody", star(), x -> x.next(0, -1), Check.BAD);
        check.refused("next of a row", star(), x -> x.next(7, 1), Check.OTHER);
        check.refused("next of nothing", star(), x -> x.next(0, 1), Check.NOTHING);
        EachRoadOnce x = star();
        Check.go(x, 1, 1);
        for (int kind = 1; kind <= 6; kind++) {
            check.due("next of one stuck fast", x.next(kind, 1), -1);
        }
        EachRoadOnce y = star();
        Check.go(y, 1, 2, 3, 4);
        check.due("all been to but where 0 leads", y.next(3, 1), 0);
        Check.go(y, 1, 0);
        check.due("all been to: the nearest of all", y.next(3, 1), 1);
        check.due("none is safe: the nearest of all", y.next(2, 1), 1);
    }

    private static void keep() {
        EachRoadOnce x = Check.read("road 0 1 miles 4;road 1 2 miles 1;road 1 0 miles 6;road 2 0 miles 2 round;one 0");
        x.rule(0, 2, 0);
        check.due("a round one is there behind it", x.next(0, 0), 3);
        x.shut(3, true);
        check.due("by the others", x.next(0, 0), 0);
        Check.go(x, 0, 0);
        check.due("not the nearest, that leads nowhere", x.next(0, 0), 2);
        x.anew(1);
        check.due("what is gone along this year isn't there anew", x.next(0, 0), 2);
        x.year();
        check.due("home by what is there anew", x.next(0, 0), 0);
        x.shut(0, true);
        x.shut(2, true);
        check.due("none is safe: the nearest", x.next(0, 0), 1);
    }

    private static void home() {
        EachRoadOnce x = Check.read("road 0 1 miles 1 round;road 0 2 miles 5 round;one 0;one 0;at 1 1");
        for (int a = 0; a < 8; a++) {
            x.rule(a, 5, a);
        }
        for (int a = 0; a < 8; a++) {
            check.due("next of HOME by " + a, x.next(a, 0), a == 0 ? -1 : 0);
            check.due("a run of HOME by " + a, x.run(a, 0, 60, 0), (a + 1) / 2 * 2);
            check.due("a run from elsewhere", x.run(a, 1, 60, 0), a | 1);
        }
        Check.go(x, 0, 1, 1);
        check.due("what was gone along ahead doesn't count", x.run(2, 0, 60, 0), 2);
        check.due("at most", x.run(7, 0, 3, 0), 3);
    }

    private static void run() {
        // By NEAR: 0-1 (4) isn't the nearest; 1 (2 miles) leads to 2, the end.
        int[] want = {1, 2, 2, 5, 0};
        for (int what = 0; what <= 4; what++) {
            int w = what;
            check.asks("run by NEAR, what " + what, star(), x -> x.run(1, 1, 60, w), want[what]);
        }
        // By KEEP: 2 to 3, 3 back, 0 to 1, 4 back; then 1 to 2.
        int[][] kept = {{0, 0, 0, 5, 1}, {1, 2, 3, 13, 1}, {2, 11, 0, 13, 1}, {3, 15, 1, 15, 1}, {4, 24, 0, 15, 1}, {5, 26, 2, 15, 0}, {5, 26, 2, 15, 0}};
        for (int n = 0; n < kept.length; n++) {
            EachRoadOnce x = star();
            for (int what = 0; what <= 4; what++) {
                check.due("run by KEEP of " + n + ", what " + what, x.run(2, 1, n, what), kept[n][what]);
            }
            check.due("nobody went", x.status(4), 0);
        }
        // By FAR: 3 to 3, 2 back, 4 to 1, 0 back, 1 to 2. By LOW: 0, 4, 1.
        check.due("run by FAR", star().run(4, 1, 60, 0), 5);
        check.due("run by FAR of 2", star().run(4, 1, 2, 1), 11);
        check.due("run by LOW", star().run(6, 1, 60, 0), 3);
        check.due("run by LOW", star().run(6, 1, 60, 1), 15);
        check.due("run by LOW", star().run(6, 1, 60, 2), 2);
        EachRoadOnce gone = star();
        Check.go(gone, 1, 0);
        check.due("miles of the run alone", gone.run(6, 1, 60, 1), 11);
        runRefusals();
    }

    private static void runRefusals() {
        check.refused("run of no shelf", star(), x -> x.run(-1, 1, 1, 0), Check.BAD);
        check.refused("run of no shelf", star(), x -> x.run(8, 1, 1, 0), Check.BAD);
        check.refused("run of nobody", star(), x -> x.run(7, -1, 1, 0), Check.BAD);
        check.refused("run of nobody", star(), x -> x.run(0, 2, 1, 0), Check.BAD);
        check.refused("run of -1", star(), x -> x.run(7, 1, -1, 0), Check.BAD);
        check.refused("run of 61", star(), x -> x.run(0, 1, 61, 0), Check.BAD);
        check.refused("run what -1", star(), x -> x.run(7, 1, 1, -1), Check.BAD);
        check.refused("run what 5", star(), x -> x.run(0, 1, 1, 5), Check.BAD);
        check.refused("run by a row", star(), x -> x.run(7, 1, 1, 0), Check.OTHER);
        check.refused("run by nothing", star(), x -> x.run(0, 1, 1, 0), Check.NOTHING);
    }

    private static void head() {
        // 1 road by NEAR, 5 by KEEP and by FAR, 3 by LOW.
        check.asks("head", star(), x -> x.head(1), 2);
        EachRoadOnce x = star();
        x.rule(0, 4, 0);
        check.due("the first of several", x.head(1), 0);
        x.rule(0, 1, 0);
        check.due("not the first of all", x.head(1), 2);
        EachRoadOnce stuck = Check.read("one 1");
        stuck.row(0, 0, 1);
        check.refused("no rules", stuck, y -> y.head(0), Check.STUCK);
        stuck.rule(5, 2, 0);
        check.due("one rule that says none", stuck.head(0), 5);
        EachRoadOnce round = Check.read("road 0 1 miles 1 round;one 0");
        round.rule(3, 5, 99);
        round.rule(4, 1, 0);
        check.due("60 by both", round.head(0), 3);
        check.refused("head(-1)", star(), y -> y.head(-1), Check.BAD);
        check.refused("head(2)", star(), y -> y.head(2), Check.BAD);
        check.refused("head of nobody without rules", new EachRoadOnce(), y -> y.head(0), Check.BAD);
    }

    private static void lives() {
        EachRoadOnce x = star();
        x.year();
        check.due("lives none", x.lives(2, 1, 0), 0);
        check.due("lives", x.lives(2, 1, 3), 3);
        check.due("where", x.oneOf(1, 1), 1);
        check.due("been", x.oneOf(1, 2), 15);
        check.due("how many", x.oneOf(1, 3), 3);
        check.due("in all", x.status(4), 3);
        check.due("when", x.when(1, 2), 1);
        check.due("left", x.left(1), 0x12);
        check.due("lives on", x.lives(2, 1, 60), 2);
        check.due("lives on", x.lives(2, 1, 60), 0);
        check.refused("lives of no shelf", star(), y -> y.lives(-1, 1, 1), Check.BAD);
        check.refused("lives of no shelf", star(), y -> y.lives(8, 1, 1), Check.BAD);
        check.refused("lives of nobody", star(), y -> y.lives(7, 2, 1), Check.BAD);
        check.refused("lives of nobody", star(), y -> y.lives(0, -1, 1), Check.BAD);
        check.refused("lives of -1", star(), y -> y.lives(7, 1, -1), Check.BAD);
        check.refused("lives of 61", star(), y -> y.lives(0, 1, 61), Check.BAD);
        check.refused("lives by a row", star(), y -> y.lives(7, 1, 1), Check.OTHER);
        check.refused("lives by nothing", star(), y -> y.lives(0, 1, 1), Check.NOTHING);
    }

    private static EachRoadOnce tale(int sort, long... roads) {
        EachRoadOnce x = star();
        Check.fill(x, 0, sort, roads);
        return x;
    }

    private static void judge() {
        check.asks("judge", tale(0, 0, 4, 2, 3, 1), x -> x.judge(1, 0, 5), -1);
        check.asks("judge one twice", tale(1, 0, 4, 0, 3, 1), x -> x.judge(1, 0, 5), 2);
        check.asks("judge fewer", tale(1, 0, 4, 0, 3, 1), x -> x.judge(1, 0, 2), -1);
        check.asks("judge none", tale(1, 9), x -> x.judge(1, 0, 0), -1);
        check.asks("judge one that is elsewhere", tale(2, 0, 1), x -> x.judge(1, 0, 2), 1);
        check.asks("judge one that isn't", tale(2, 0, 5), x -> x.judge(1, 0, 2), 1);
        check.asks("judge one below all", tale(2, -1), x -> x.judge(1, 0, 1), 0);
        check.asks("judge a long one", tale(3, 1L << 32), x -> x.judge(1, 0, 1), 0);
        check.asks("judge booleans", tale(4, 0, 7), x -> x.judge(1, 0, 2), 1);
        check.asks("judge the other one", tale(0, 1, 2), x -> x.judge(0, 0, 2), -1);
        EachRoadOnce round = Check.read("road 0 1 miles 3 round;one 0");
        round.row(0, 0, 21);
        check.due("judge 20 of a round one", round.judge(0, 0, 20), -1);
        check.refused("judge 21", round, x -> x.judge(0, 0, 21), Check.BAD);
        round.shut(0, true);
        check.due("judge a shut one", round.judge(0, 0, 1), 0);
        check.refused("judge of nobody", star(), x -> x.judge(-1, 1, 0), Check.BAD);
        check.refused("judge of nobody", star(), x -> x.judge(2, 0, 0), Check.BAD);
        check.refused("judge of no shelf", star(), x -> x.judge(0, -1, 0), Check.BAD);
        check.refused("judge of no shelf", star(), x -> x.judge(0, 8, 0), Check.BAD);
        check.refused("judge of -1", star(), x -> x.judge(0, 1, -1), Check.BAD);
        check.refused("judge of a rule", star(), x -> x.judge(0, 1, 3), Check.OTHER);
        check.refused("judge of nothing", star(), x -> x.judge(0, 0, 3), Check.NOTHING);
        check.refused("judge of fewer", star(), x -> x.judge(0, 7, 2), Check.BAD);
    }

    private static void told() {
        int[] want = {1, 15, 11};
        for (int what = 0; what <= 2; what++) {
            int w = what;
            check.asks("told, what " + what, tale(3, 2, 3, 0, 9), x -> x.told(1, 0, 3, w), want[what]);
        }
        check.asks("told of none, where", tale(3, 9), x -> x.told(1, 0, 0, 0), 0);
        check.asks("told of none, miles", tale(3, 9), x -> x.told(1, 0, 0, 1), 0);
        check.asks("told of none, places", tale(3, 9), x -> x.told(1, 0, 0, 2), 1);
        EachRoadOnce gone = tale(3, 4, 1);
        Check.go(gone, 1, 0);
        check.due("miles of the tale alone", gone.told(1, 0, 2, 1), 11);
        check.due("places of the tale alone", gone.told(1, 0, 1, 2), 3);
        check.refused("told what can't be", tale(3, 2, 3, 0, 9), x -> x.told(1, 0, 4, 0), Check.STUCK);
        check.refused("told what can't be", tale(3, 2, 1), x -> x.told(1, 0, 2, 2), Check.STUCK);
        check.refused("told of nobody", star(), x -> x.told(-1, 1, 0, 0), Check.BAD);
        check.refused("told of nobody", star(), x -> x.told(2, 0, 0, 0), Check.BAD);
        check.refused("told of no shelf", star(), x -> x.told(0, -1, 0, 0), Check.BAD);
        check.refused("told of no shelf", star(), x -> x.told(0, 8, 0, 0), Check.BAD);
        check.refused("told of -1", star(), x -> x.told(0, 1, -1, 0), Check.BAD);
        check.refused("told of 21", star(), x -> x.told(0, 0, 21, 0), Check.BAD);
        check.refused("told what -1", star(), x -> x.told(0, 1, 1, -1), Check.BAD);
        check.refused("told what 3", star(), x -> x.told(0, 0, 1, 3), Check.BAD);
        check.refused("told of a rule", star(), x -> x.told(0, 1, 3, 0), Check.OTHER);
        check.refused("told of nothing", star(), x -> x.told(0, 0, 3, 0), Check.NOTHING);
        check.refused("told of fewer", star(), x -> x.told(0, 7, 2, 0), Check.BAD);
    }
}
