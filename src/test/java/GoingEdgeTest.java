import java.util.function.Supplier;

/** Promises 19 to 30, sentence by sentence: the boundaries of going, RULES, RUNS and told lives. */
public final class GoingEdgeTest {
    private static final Edges edges = new Edges();
    private static final Supplier<EachRoadOnce> EMPTY = Edges::empty;
    private static final Supplier<EachRoadOnce> RICH = Edges::rich;
    private static final Supplier<EachRoadOnce> FULL = Edges::full;

    public static void main(String[] args) {
        left();
        here();
        reach();
        safe();
        go();
        goes();
        year();
        next();
        nearAndFar();
        keepAndNew();
        homeRule();
        run();
        runOrder();
        head();
        lives();
        judge();
        judgeOrder();
        told();
        toldOrder();
        edges.end("GoingEdgeTest", 19, 20, 21, 22, 23, 24, 25, 26, 27, 28, 29, 30);
    }

    private static Supplier<EachRoadOnce> land(String text) {
        return () -> Check.read(text);
    }

    private static void left() {
        edges.of(19, "ROADS LEFT (bits) to one. BAD.");
        edges.range("one", RICH, v -> x -> x.left(v), 0, 1, v -> v == 0 ? 6 : 7);
        edges.range("one of six", FULL, v -> x -> x.left(v), 0, 5, v -> 0xffff);
        edges.refused("one 0 where there are none", EMPTY, x -> x.left(0), Check.BAD);
        edges.asks("of no ROADS", land("one 0"), x -> x.left(0), 0);
        edges.asks("nothing changes", FULL, x -> x.left(5), 0xffff);
        edges.of(19, "LEFT to one: open ROADS");
        edges.range("each of six of their own", () -> {
            EachRoadOnce x = Edges.full();
            for (int one = 0; one < 6; one++) {
                x.go(one, 2 * one);
            }
            return x;
        }, v -> x -> x.left(v), 0, 5, v -> 0xffff & ~(1 << 2 * v));
        edges.of(19, "open ROADS that are ROUND, or not gone along (or ANEW YEARS ago at least)");
        String roads = "road 0 1 miles 1;road 0 1 miles 1 round;road 0 1 miles 1;road 0 1 miles 1 round;one 0;gone 0 0;gone 0 1";
        edges.asks("gone along, gone along ROUND, not gone along, ROUND", land(roads), x -> x.left(0), 14);
        edges.asks("all of these shut but one", land(roads + ";shut 1;shut 2"), x -> x.left(0), 8);
        edges.asks("all of these shut", land(roads + ";shut 0;shut 1;shut 2;shut 3"), x -> x.left(0), 0);
        Supplier<EachRoadOnce> later = () -> {
            EachRoadOnce x = Check.read(roads + ";anew 1;shut 3");
            x.year();
            return x;
        };
        edges.asks("ANEW YEARS later", later, x -> x.left(0), 7);
        edges.fine("shut then", later, x -> x.shut(0, true) == 1 ? x.left(0) : Check.BAD, 6);
    }

    private static void here() {
        edges.of(20, "ROADS LEFT (bits) at the PLACE where one is. BAD.");
        edges.range("one", RICH, v -> x -> x.here(v), 0, 1, v -> v == 0 ? 2 : 6);
        edges.range("one of six", FULL, v -> x -> x.here(v), 0, 5, v -> 0xffff);
        edges.refused("one 0 where there are none", EMPTY, x -> x.here(0), Check.BAD);
        edges.asks("of no ROADS", land("one 0"), x -> x.here(0), 0);
        edges.asks("ROADS elsewhere", land("road 1 2 miles 3;one 0"), x -> x.here(0), 0);
        edges.fine("behind ROAD 0, at its other end", FULL, x -> x.go(0, 0) == 0 ? x.here(0) : Check.BAD, 1 << 7 | 1 << 14);
        edges.of(20, "One who has no ROAD LEFT at the PLACE where they are is STUCK FAST.");
        edges.asks("a ROAD that is gone along", land("road 0 1 miles 3;one 0;gone 0 0"), x -> x.here(0), 0);
    }

    private static void reach() {
        edges.of(21, "REACH of one: PLACES to which LEFT ROADS lead from where they are, one behind the other, that PLACE, too.");
        edges.of(21, "REACH. BAD.");
        edges.range("one", RICH, v -> x -> x.reach(v), 0, 1, v -> 7);
        edges.range("one of six", FULL, v -> x -> x.reach(v), 0, 5, v -> 255);
        edges.refused("one 0 where there are none", EMPTY, x -> x.reach(0), Check.BAD);
        edges.of(21, "one behind the other, that PLACE, too.");
        for (int place = 0; place < 8; place++) {
            edges.asks("that PLACE alone", land("one " + place), x -> x.reach(0), 1 << place);
        }
        String line = "road 0 1 miles 1;road 1 2 miles 1;road 2 3 miles 1;road 3 4 miles 1;road 4 5 miles 1;road 5 6 miles 1;road 6 7 miles 1";
        edges.asks("up a line", land(line + ";one 0"), x -> x.reach(0), 255);
        edges.asks("down a line", land(line + ";one 7"), x -> x.reach(0), 255);
        edges.asks("from its middle", land(line + ";one 4"), x -> x.reach(0), 255);
        edges.asks("a shut one parts it", land(line + ";one 4;shut 3"), x -> x.reach(0), 0xf0);
        edges.asks("one that is gone along parts it", land(line + ";one 4;gone 0 4"), x -> x.reach(0), 0x1f);
        edges.asks("from where they are, not from HOME", land(line + ";one 0;shut 5;at 0 7"), x -> x.reach(0), 0xc0);
        edges.asks("by ROUND ones, too", land("road 0 1 miles 1 round;road 1 2 miles 1;one 0;gone 0 0"), x -> x.reach(0), 7);
    }

    private static void safe() {
        edges.of(22, "SAFE: HOME is in REACH.");
        edges.of(22, "1 if one is SAFE, else 0. BAD.");
        edges.range("one", RICH, v -> x -> x.safe(v), 0, 1, v -> 1);
        edges.range("one of six", FULL, v -> x -> x.safe(v), 0, 5, v -> 1);
        edges.refused("one 0 where there are none", EMPTY, x -> x.safe(0), Check.BAD);
        edges.of(22, "SAFE: HOME is in REACH.");
        edges.asks("at HOME without ROADS", land("one 7"), x -> x.safe(0), 1);
        edges.asks("elsewhere without ROADS: 0 isn't refused", land("one 7;at 0 6"), x -> x.safe(0), 0);
        edges.asks("one ROAD away", land("road 6 7 miles 60;one 7;at 0 6"), x -> x.safe(0), 1);
        edges.asks("one ROAD away that is gone along", land("road 6 7 miles 60;one 7;at 0 6;gone 0 0"), x -> x.safe(0), 0);
        edges.asks("one ROAD away that is shut", land("road 6 7 miles 60;one 7;at 0 6;shut 0"), x -> x.safe(0), 0);
        edges.asks("one ROUND ROAD away that is gone along", land("road 6 7 miles 60 round;one 7;at 0 6;gone 0 0"), x -> x.safe(0), 1);
    }

    private static void go() {
        edges.of(23, "One GOES along a ROAD: the PLACE then. BAD; STUCK: it is not LEFT, not there.");
        edges.range("one", FULL, v -> x -> x.go(v, 3), 0, 5, v -> 3);
        edges.range("road", FULL, v -> x -> x.go(5, v), 0, 15, v -> v % 7);
        edges.outside("one of two", RICH, v -> x -> x.go(v, 1), 0, 1);
        edges.outside("road of four", RICH, v -> x -> x.go(0, v), 0, 3);
        edges.refused("nobody, no ROAD: one refusal", EMPTY, x -> x.go(0, 0), Check.BAD);
        edges.refused("nobody, a ROAD", land("road 0 1 miles 1"), x -> x.go(0, 0), Check.BAD);
        edges.refused("somebody, no ROAD", land("one 1"), x -> x.go(0, 0), Check.BAD);
        edges.refused("not LEFT: gone along", RICH, x -> x.go(0, 0), Check.STUCK);
        edges.refused("LEFT, not there", RICH, x -> x.go(0, 2), Check.STUCK);
        edges.refused("there, but shut", land("road 3 4 miles 1;one 3;shut 0"), x -> x.go(0, 0), Check.STUCK);
        edges.refused("shut, ROUND", land("road 3 4 miles 1 round;one 4;shut 0"), x -> x.go(0, 0), Check.STUCK);
        edges.refused("neither LEFT nor there", RICH, x -> x.go(1, 3), Check.STUCK);
    }

    private static void goes() {
        edges.of(23, "they are at its other end then, have BEEN there, have gone along it in THE YEAR (ROUND ones, too)");
        EachRoadOnce x = Edges.rich();
        x.year();
        edges.due("up", x.go(0, 1), 2);
        edges.due("PLACE", x.oneOf(0, 1), 2);
        edges.due("BEEN", x.oneOf(0, 2), 7);
        edges.due("THE YEAR", x.when(0, 1), 2);
        edges.due("how many", x.oneOf(0, 3), 2);
        edges.due("ROUND", x.go(0, 2), 0);
        edges.due("THE YEAR of a ROUND one, too", x.when(0, 2), 2);
        edges.due("down the same", x.go(0, 2), 2);
        edges.due("how many", x.oneOf(0, 3), 4);
        edges.due("one 1 stayed", x.oneOf(1, 3), 0);
        edges.due("in all", x.status(4), 4);
        edges.of(23, "a ROUND one may be gone along as often as one likes");
        for (int i = 0; i < 100; i++) {
            edges.due("time and again", x.go(1, 2), i % 2 == 0 ? 0 : 2);
        }
        edges.due("a hundred", x.oneOf(1, 3), 100);
        edges.of(23, "One GOES along a ROAD that is LEFT to them and is at their PLACE");
        EachRoadOnce y = Check.read("road 0 1 miles 1;road 1 0 miles 1;one 0");
        edges.due("by the first", y.go(0, 0), 1);
        edges.due("not again, though it is there", y.go(0, 0), Check.STUCK);
        edges.due("by the other, from its first end", y.go(0, 1), 0);
        edges.due("not again", y.go(0, 1), Check.STUCK);
        edges.due("not again", y.go(0, 0), Check.STUCK);
    }

    private static void year() {
        edges.of(24, "A YEAR passes: THE YEAR.");
        edges.fine("the first", EMPTY, x -> x.year(), 1);
        edges.fine("the first, then status", EMPTY, x -> x.year() == 1 ? x.status(2) : Check.BAD, 1);
        edges.fine("the next", RICH, x -> x.year(), 2);
        edges.fine("nobody goes", RICH, x -> x.year() == 2 ? x.status(4) : Check.BAD, 1);
        EachRoadOnce x = new EachRoadOnce();
        for (int i = 1; i <= 500; i++) {
            edges.due("one YEAR after the other", x.year(), i);
        }
    }

    /** RULE s is of KIND s, by 1; SHELF 0 holds a ROW, SHELF 7 NOTHING. */
    private static Supplier<EachRoadOnce> ruled(String text) {
        return () -> {
            EachRoadOnce x = Check.read(text);
            x.row(0, 2, 3);
            for (int kind = 1; kind <= 6; kind++) {
                x.rule(kind, kind, 1);
            }
            return x;
        };
    }

    private static void next() {
        edges.of(25, "The ROAD that the RULE in SHELF s says for one; NONE. BAD; OTHER; NOTHING.");
        Supplier<EachRoadOnce> made = ruled("road 0 1 miles 3;road 0 2 miles 4;one 0;one 2");
        edges.range("s", RICH, v -> x -> x.rule(v, 6, 0) == 1 ? x.next(v, 1) : Check.BAD, 0, 7, v -> 1);
        edges.outside("s", made, v -> x -> x.next(v, 0), 0, 7);
        edges.range("one", made, v -> x -> x.next(1, v), 0, 1, v -> v);
        edges.range("one of six", FULL, v -> x -> x.next(6, v), 0, 5, v -> 0);
        edges.refused("a ROW", made, x -> x.next(0, 0), Check.OTHER);
        edges.refused("NOTHING", made, x -> x.next(7, 0), Check.NOTHING);
        edges.refused("BAD one ahead of OTHER", made, x -> x.next(0, 2), Check.BAD);
        edges.refused("BAD one ahead of NOTHING", made, x -> x.next(7, -1), Check.BAD);
        Supplier<EachRoadOnce> nobody = () -> {
            EachRoadOnce x = new EachRoadOnce();
            x.rule(1, 1, 1);
            return x;
        };
        edges.refused("one 0 where there are none", nobody, x -> x.next(1, 0), Check.BAD);
        edges.of(25, "say which LEFT ROAD one takes next (NONE: none)");
        for (int kind = 1; kind <= 6; kind++) {
            int s = kind;
            edges.asks("KIND " + kind + ", STUCK FAST away from HOME: NONE isn't refused", ruled("road 0 1 miles 3;one 0;at 0 1;shut 0"), x -> x.next(s, 0), -1);
            edges.asks("KIND " + kind + ", without ROADS at HOME", ruled("one 0"), x -> x.next(s, 0), -1);
            edges.asks("KIND " + kind + ", the only ROAD", ruled("road 0 1 miles 60;one 0"), x -> x.next(s, 0), 0);
        }
    }

    private static void nearAndFar() {
        edges.of(25, "the one of the fewest MILES, of several the least number");
        edges.asks("1 and 2 MILES", ruled("road 0 1 miles 2;road 0 2 miles 1;one 0"), x -> x.next(1, 0), 1);
        edges.asks("2 and 1", ruled("road 0 1 miles 1;road 0 2 miles 2;one 0"), x -> x.next(1, 0), 0);
        edges.asks("of several", ruled("road 0 1 miles 9;road 0 2 miles 4;road 0 3 miles 4;road 0 4 miles 4;one 0"), x -> x.next(1, 0), 1);
        edges.asks("60 and 59", ruled("road 0 1 miles 60;road 0 2 miles 59;one 0"), x -> x.next(1, 0), 1);
        edges.asks("of those at the PLACE alone", ruled("road 0 1 miles 9;road 1 2 miles 1;one 0"), x -> x.next(1, 0), 0);
        edges.asks("of those LEFT alone", ruled("road 0 1 miles 9;road 0 2 miles 1;one 0;gone 0 1"), x -> x.next(1, 0), 0);
        edges.fine("the sixteenth", FULL, x -> x.rule(5, 1, 0) == 1 ? x.next(5, 0) : Check.BAD, 15);
        edges.of(25, "the one of the most MILES, of several the least number");
        edges.asks("1 and 2 MILES", ruled("road 0 1 miles 1;road 0 2 miles 2;one 0"), x -> x.next(4, 0), 1);
        edges.asks("2 and 1", ruled("road 0 1 miles 2;road 0 2 miles 1;one 0"), x -> x.next(4, 0), 0);
        edges.asks("of several", ruled("road 0 1 miles 1;road 0 2 miles 4;road 0 3 miles 4;road 0 4 miles 4;one 0"), x -> x.next(4, 0), 1);
        edges.asks("59 and 60", ruled("road 0 1 miles 59;road 0 2 miles 60;one 0"), x -> x.next(4, 0), 1);
        edges.asks("the first of sixteen", FULL, x -> x.next(5, 0), 0);
        for (int kind = 1; kind <= 6; kind++) {
            int k = kind;
            edges.fine("KIND " + kind + " of sixteen", FULL, x -> x.rule(0, k, 99) == 1 ? x.next(0, 5) : Check.BAD, kind == 4 || kind == 6 ? 0 : 15);
        }
        edges.of(25, "6 LOW, under RULE: the least number");
        edges.asks("whatever the MILES", ruled("road 0 1 miles 30;road 0 2 miles 60;road 0 3 miles 1;one 0"), x -> x.next(6, 0), 0);
        edges.asks("the first that is LEFT", ruled("road 0 1 miles 30;road 0 2 miles 60;road 0 3 miles 1;one 0;shut 0"), x -> x.next(6, 0), 1);
    }

    private static void keepAndNew() {
        edges.of(25, "as NEAR, of those behind which one is SAFE still (without such: as NEAR of all)");
        String pair = "road 0 1 miles 1;road 0 2 miles 5;road 2 0 miles 6;one 0";
        edges.asks("not the nearest, behind which one isn't", ruled(pair), x -> x.next(2, 0), 1);
        edges.asks("without such", ruled("road 0 1 miles 4;road 0 2 miles 3;one 0"), x -> x.next(2, 0), 1);
        edges.asks("of several such the nearest", ruled("road 0 1 miles 1;road 0 2 miles 5;road 2 0 miles 3;one 0"), x -> x.next(2, 0), 2);
        edges.asks("of several such of as many MILES the least number", ruled("road 0 1 miles 1;road 0 2 miles 5;road 2 0 miles 5;one 0"), x -> x.next(2, 0), 1);
        edges.asks("to HOME itself", ruled("road 1 2 miles 1;road 0 1 miles 9;one 0;at 0 1"), x -> x.next(2, 0), 1);
        edges.asks("back by the same, if it is ROUND", ruled("road 0 1 miles 1 round;road 0 2 miles 5;road 2 0 miles 6;one 0"), x -> x.next(2, 0), 0);
        edges.asks("not back by the same, though ANEW is the least", ruled(pair + ";anew 1"), x -> x.next(2, 0), 1);
        edges.of(25, "as NEAR, of those to PLACES not BEEN (without such: as NEAR of all)");
        String star = "road 0 1 miles 1;road 0 2 miles 5;road 0 3 miles 5;road 0 7 miles 6;one 0;at 0 1;at 0 0";
        edges.asks("not the nearest, where they have been", ruled(star), x -> x.next(3, 0), 1);
        edges.asks("the other of as many MILES", ruled(star + ";at 0 2;at 0 0"), x -> x.next(3, 0), 2);
        edges.asks("the last PLACE", ruled(star + ";at 0 2;at 0 3;at 0 0"), x -> x.next(3, 0), 3);
        edges.asks("without such", ruled(star + ";at 0 2;at 0 3;at 0 7;at 0 0"), x -> x.next(3, 0), 0);
        edges.asks("what another one has BEEN to counts for nothing", ruled("road 0 1 miles 1;one 0;one 1;road 0 2 miles 3"), x -> x.next(3, 0), 0);
    }

    private static void homeRule() {
        edges.of(25, "none, if one is at HOME and has gone a ROADS at least by this (in this RUN; by next() and says() 0); else as KEEP");
        for (int a : new int[] {0, 1, 2, 3, 58, 59, 60, 61, 98, 99}) {
            Supplier<EachRoadOnce> made = () -> {
                EachRoadOnce x = Check.read("road 0 1 miles 1 round;one 0;one 0;at 1 1;gone 0 0;gone 0 0");
                x.rule(0, 5, a);
                return x;
            };
            edges.asks("next by " + a + " at HOME", made, x -> x.next(0, 0), a == 0 ? -1 : 0);
            edges.asks("next by " + a + " elsewhere", made, x -> x.next(0, 1), 0);
            edges.of(26, "none, if one is at HOME and has gone a ROADS at least by this (in this RUN; by next() and says() 0); else as KEEP");
            // They are at HOME again behind each second ROAD, from elsewhere behind the first and then each second.
            edges.asks("a RUN by " + a + " from HOME", made, x -> x.run(0, 0, 60, 0), Math.min(60, (a + 1) / 2 * 2));
            edges.asks("a RUN by " + a + " from elsewhere", made, x -> x.run(0, 1, 60, 0), Math.min(60, a / 2 * 2 + 1));
            edges.of(25, "none, if one is at HOME and has gone a ROADS at least by this (in this RUN; by next() and says() 0); else as KEEP");
        }
        String keeps = "road 0 1 miles 1;road 0 2 miles 5;road 2 0 miles 6;one 0";
        edges.asks("as KEEP, not as NEAR", ruled(keeps), x -> x.next(5, 0), 1);
    }

    private static void run() {
        edges.of(26, "again and again the ROAD it says, till it says none, or n ROADS are gone along (0 to 60).");
        Supplier<EachRoadOnce> round = ruled("road 0 1 miles 60 round;one 0;one 1");
        edges.range("n", round, v -> x -> x.run(1, 0, v, 0), 0, 60, v -> v);
        edges.range("n, MILES", round, v -> x -> x.run(4, 0, v, 1), 0, 60, v -> 60 * v);
        edges.range("n, the PLACE", round, v -> x -> x.run(6, 0, v, 2), 0, 60, v -> v % 2);
        edges.range("n, BEEN", round, v -> x -> x.run(6, 0, v, 3), 0, 60, v -> v == 0 ? 1 : 3);
        edges.range("n, SAFE", round, v -> x -> x.run(6, 0, v, 4), 0, 60, v -> 1);
        Supplier<EachRoadOnce> line = ruled("road 0 1 miles 5;road 1 2 miles 6;one 0;one 2");
        edges.range("n of two", line, v -> x -> x.run(1, 0, v, 0), 0, 60, v -> Math.min(v, 2));
        edges.range("n of two, SAFE at its end", line, v -> x -> x.run(1, 0, v, 4), 0, 60, v -> v == 0 ? 1 : 0);
        edges.of(26, "how many were gone along (what 0), MILES (1), the PLACE at its end (2), PLACES BEEN in it and ahead (3, bits), 1 if one is SAFE at its end (4)");
        int[] want = {2, 11, 2, 7, 0};
        edges.range("what", line, v -> x -> x.run(1, 0, 60, v), 0, 4, v -> want[v]);
        int[] none = {0, 0, 0, 1, 1};
        edges.range("what of none", line, v -> x -> x.run(1, 0, 0, v), 0, 4, v -> none[v]);
        Supplier<EachRoadOnce> been = ruled("road 0 1 miles 5;one 7;at 0 6;at 0 0");
        edges.asks("PLACES BEEN ahead, too", been, x -> x.run(1, 0, 60, 3), 0xc3);
        edges.asks("PLACES BEEN ahead of none", been, x -> x.run(1, 0, 0, 3), 0xc1);
        edges.of(26, "how many were gone along (what 0), MILES (1)");
        Supplier<EachRoadOnce> gone = () -> {
            EachRoadOnce x = line.get();
            x.go(0, 0);
            return x;
        };
        edges.asks("how many of the RUN alone", gone, x -> x.run(1, 0, 60, 0), 1);
        edges.asks("MILES of the RUN alone", gone, x -> x.run(1, 0, 60, 1), 6);
        edges.of(26, "A RUN by a RULE: from how all is now, nothing being changed:");
        for (int what = 0; what <= 4; what++) {
            int w = what;
            edges.asks("nothing, what " + what, line, x -> x.run(6, 0, 60, w), want[what]);
        }
    }

    private static void runOrder() {
        edges.of(26, "1 if one is SAFE at its end (4). BAD; OTHER; NOTHING.");
        Supplier<EachRoadOnce> made = ruled("road 0 1 miles 60 round;one 0;one 1");
        edges.outside("s", made, v -> x -> x.run(v, 0, 1, 0), 0, 7);
        edges.of(26, "A RUN of n ROADS at most by the RULE in SHELF s");
        edges.range("s", made, v -> x -> x.rule(v, 6, 0) == 1 ? x.run(v, 0, 3, 0) : Check.BAD, 0, 7, v -> 3);
        edges.range("one", made, v -> x -> x.run(1, v, 1, 2), 0, 1, v -> 1 - v);
        edges.of(26, "BAD; OTHER; NOTHING.");
        edges.refused("a ROW", made, x -> x.run(0, 0, 0, 0), Check.OTHER);
        edges.refused("NOTHING", made, x -> x.run(7, 0, 0, 0), Check.NOTHING);
        for (int s : new int[] {0, 7}) {
            edges.refused("BAD one ahead of what SHELF " + s + " holds", made, x -> x.run(s, 2, 1, 0), Check.BAD);
            edges.refused("BAD n ahead of what SHELF " + s + " holds", made, x -> x.run(s, 0, 61, 0), Check.BAD);
            edges.refused("BAD n ahead of what SHELF " + s + " holds", made, x -> x.run(s, 0, -1, 0), Check.BAD);
            edges.refused("BAD what ahead of what SHELF " + s + " holds", made, x -> x.run(s, 0, 1, 5), Check.BAD);
            edges.refused("BAD what ahead of what SHELF " + s + " holds", made, x -> x.run(s, 0, 1, -1), Check.BAD);
        }
    }

    private static void head() {
        edges.of(27, "The SHELF with the RULE by which one goes along most ROADS (of 60 at most), of several the first.");
        // By FAR and LOW one comes to 2 and back, by NEAR into the end at 1.
        String text = "road 0 2 miles 9;road 2 0 miles 9;road 0 1 miles 1;one 0;one 1";
        for (int s = 0; s < 8; s++) {
            int shelf = s;
            Supplier<EachRoadOnce> one = () -> {
                EachRoadOnce x = Check.read(text);
                x.rule(shelf, 1, 0);
                return x;
            };
            edges.asks("the only one, SHELF " + s, one, x -> x.head(0), s);
            Supplier<EachRoadOnce> best = () -> {
                EachRoadOnce x = Check.read(text);
                for (int i = 0; i < 8; i++) {
                    x.rule(i, i == shelf ? 4 : 1, 0);
                }
                return x;
            };
            edges.asks("the best, SHELF " + s, best, x -> x.head(0), s);
            Supplier<EachRoadOnce> several = () -> {
                EachRoadOnce x = Check.read(text);
                for (int i = 0; i < 8; i++) {
                    x.rule(i, i >= shelf ? 4 : 1, 0);
                }
                return x;
            };
            edges.asks("the first of several, SHELF " + s, several, x -> x.head(0), s);
        }
        Supplier<EachRoadOnce> sixty = () -> {
            EachRoadOnce x = Check.read("road 0 1 miles 1 round;one 0");
            x.rule(2, 5, 59);
            x.rule(3, 5, 60);
            x.rule(4, 5, 99);
            x.rule(5, 1, 0);
            return x;
        };
        edges.asks("of 60 at most: by 59 as many as by 99", sixty, x -> x.head(0), 2);
        Supplier<EachRoadOnce> fewer = () -> {
            EachRoadOnce x = sixty.get();
            x.rule(2, 5, 58);
            return x;
        };
        edges.asks("58 are fewer than 60", fewer, x -> x.head(0), 3);
        edges.of(27, "BAD; STUCK: none holds a RULE.");
        edges.range("one", FULL, v -> x -> x.head(v), 0, 5, v -> 5);
        edges.refused("SHELVES hold NOTHING", land(text), x -> x.head(0), Check.STUCK);
        Supplier<EachRoadOnce> rows = () -> {
            EachRoadOnce x = Check.read(text);
            for (int s = 0; s < 8; s++) {
                x.row(s, s % 5, 40);
            }
            return x;
        };
        edges.refused("SHELVES hold ROWS", rows, x -> x.head(1), Check.STUCK);
        edges.refused("BAD ahead of STUCK", rows, x -> x.head(2), Check.BAD);
        edges.refused("BAD ahead of STUCK", EMPTY, x -> x.head(0), Check.BAD);
        edges.fine("a RULE that says none is one", land("one 3"), x -> x.rule(7, 1, 0) == 1 ? x.head(0) : Check.BAD, 7);
    }

    private static void lives() {
        edges.of(28, "n ROADS at most are gone along in truth by the RULE in SHELF s: how many. BAD; OTHER; NOTHING.");
        Supplier<EachRoadOnce> made = ruled("road 0 1 miles 60 round;one 0;one 1");
        edges.range("n", made, v -> x -> x.lives(1, 0, v), 0, 60, v -> v);
        edges.range("n, then how many they have gone along", made, v -> x -> x.lives(1, 0, v) == v ? x.oneOf(0, 3) : Check.BAD, 0, 60, v -> v);
        edges.range("n, then where they are", made, v -> x -> x.lives(1, 0, v) == v ? x.oneOf(0, 1) : Check.BAD, 0, 60, v -> v % 2);
        edges.asks("none", made, x -> x.lives(1, 0, 0), 0);
        edges.range("s", made, v -> x -> x.rule(v, 6, 0) == 1 ? x.lives(v, 0, 3) : Check.BAD, 0, 7, v -> 3);
        edges.outside("s", made, v -> x -> x.lives(v, 0, 1), 0, 7);
        edges.range("one", made, v -> x -> x.lives(1, v, 1), 0, 1, v -> 1);
        edges.refused("a ROW", made, x -> x.lives(0, 0, 0), Check.OTHER);
        edges.refused("NOTHING", made, x -> x.lives(7, 0, 0), Check.NOTHING);
        for (int s : new int[] {0, 7}) {
            edges.refused("BAD one ahead of what SHELF " + s + " holds", made, x -> x.lives(s, 2, 1), Check.BAD);
            edges.refused("BAD n ahead of what SHELF " + s + " holds", made, x -> x.lives(s, 0, 61), Check.BAD);
            edges.refused("BAD n ahead of what SHELF " + s + " holds", made, x -> x.lives(s, 0, -1), Check.BAD);
        }
        Supplier<EachRoadOnce> line = ruled("road 0 1 miles 5;road 1 2 miles 6;one 0;one 2");
        edges.fine("till STUCK FAST", line, x -> x.lives(1, 0, 60), 2);
        edges.fine("just as far", line, x -> x.lives(1, 0, 2), 2);
        edges.fine("STUCK FAST: 0 isn't refused", line, x -> x.lives(1, 0, 2) == 2 ? x.lives(1, 0, 2) : Check.BAD, 0);
        edges.fine("HOME by 0 at HOME: 0 isn't refused", line, x -> x.rule(5, 5, 0) == 1 ? x.lives(5, 0, 60) : Check.BAD, 0);
        edges.of(28, "gone a ROADS at least by this (in this RUN");
        EachRoadOnce x = made.get();
        x.rule(5, 5, 2);
        for (int i = 1; i <= 3; i++) {
            edges.due("HOME by 2, each time anew", x.lives(5, 0, 60), 2);
            edges.due("gone along in all", x.oneOf(0, 3), 2 * i);
        }
    }

    /** One 0 at 0; ROAD 0 is 0-1 (4 MILES, ROUND), 1 is 1-2 (7), 2 is 2-0 (9), 3 is 3-4. SHELF 0 holds the tale, 1 a RULE, 2 NOTHING. */
    private static Supplier<EachRoadOnce> tale(int sort, long... roads) {
        return () -> {
            EachRoadOnce x = Check.read("road 0 1 miles 4 round;road 1 2 miles 7;road 2 0 miles 9;road 3 4 miles 1;one 0;one 2;at 0 5;at 0 0");
            Check.fill(x, 0, sort, roads);
            x.rule(1, 1, 0);
            return x;
        };
    }

    private static void judge() {
        edges.of(29, "A told life of one by the first n elements (0 to 20) of the ROW in SHELF s, ROADS");
        edges.range("n of 20", tale(0, new long[20]), v -> x -> x.judge(0, 0, v), 0, 20, v -> -1);
        edges.range("n of 40", tale(3, new long[40]), v -> x -> x.judge(0, 0, v), 0, 20, v -> -1);
        edges.of(29, "the place of the first that they can't go along; NONE.");
        for (int place = 0; place < 20; place++) {
            long[] roads = new long[20];
            roads[place] = 3;
            int p = place;
            edges.range("n, where element " + place + " can't be", tale(1, roads), v -> x -> x.judge(0, 0, v), 0, 20, v -> v > p ? p : -1);
        }
        edges.asks("each once", tale(2, 2, 1, 0), x -> x.judge(0, 0, 3), -1);
        edges.asks("one twice", tale(2, 2, 2), x -> x.judge(0, 0, 2), 1);
        edges.asks("a ROUND one twice", tale(2, 0, 0), x -> x.judge(0, 0, 2), -1);
        edges.asks("the first of two", tale(2, 1, 3), x -> x.judge(0, 0, 2), 0);
        edges.asks("none told", tale(2), x -> x.judge(0, 0, 0), -1);
        long[] no = {-1, 4, 16, 32, Integer.MIN_VALUE, Integer.MAX_VALUE};
        for (long road : no) {
            edges.asks("no ROAD " + road, tale(2, 0, road), x -> x.judge(0, 0, 2), 1);
        }
        for (long road : new long[] {1L << 32, Long.MIN_VALUE, Long.MAX_VALUE, (1L << 32) + 2, -1L << 32}) {
            edges.asks("no ROAD " + road, tale(3, 2, road), x -> x.judge(0, 0, 2), 1);
        }
        edges.asks("booleans are 0 and 1", tale(4, 0, 5), x -> x.judge(0, 0, 2), -1);
        edges.asks("a shut one", () -> {
            EachRoadOnce x = tale(2, 2).get();
            x.shut(2, true);
            return x;
        }, x -> x.judge(0, 0, 1), 0);
    }

    private static void judgeOrder() {
        edges.of(29, "BAD ONE, SHELF, n; OTHER; NOTHING; BAD: fewer elements.");
        edges.range("one", tale(2, 0), v -> x -> x.judge(v, 0, 1), 0, 1, v -> v == 0 ? -1 : 0);
        edges.outside("s", tale(2, 0), v -> x -> x.judge(0, v, 1), 0, 7);
        edges.refused("a RULE", tale(2, 0), x -> x.judge(0, 1, 0), Check.OTHER);
        edges.refused("NOTHING", tale(2, 0), x -> x.judge(0, 2, 0), Check.NOTHING);
        edges.refused("a RULE has fewer elements", tale(2, 0), x -> x.judge(0, 1, 20), Check.OTHER);
        edges.refused("NOTHING has fewer elements", tale(2, 0), x -> x.judge(0, 2, 20), Check.NOTHING);
        for (int s : new int[] {1, 2}) {
            edges.refused("BAD ONE ahead of what SHELF " + s + " holds", tale(2, 0), x -> x.judge(2, s, 0), Check.BAD);
            edges.refused("BAD n ahead of what SHELF " + s + " holds", tale(2, 0), x -> x.judge(0, s, 21), Check.BAD);
            edges.refused("BAD n ahead of what SHELF " + s + " holds", tale(2, 0), x -> x.judge(0, s, -1), Check.BAD);
        }
        for (int size = 0; size <= 19; size++) {
            edges.range("n of " + size, tale(2, new long[size]), v -> x -> x.judge(0, 0, v), 0, size, v -> -1);
        }
        edges.refused("fewer elements, though the first can't be", tale(2, 3), x -> x.judge(0, 0, 2), Check.BAD);
    }

    private static void told() {
        edges.of(30, "The PLACE at its end (what 0), its MILES (1), PLACES come to in it (2, bits; where one was ahead, too).");
        int[] want = {2, 11, 7};
        int[] none = {0, 0, 1};
        edges.range("what", tale(2, 0, 1), v -> x -> x.told(0, 0, 2, v), 0, 2, v -> want[v]);
        edges.range("what of none", tale(2, 0, 1), v -> x -> x.told(0, 0, 0, v), 0, 2, v -> none[v]);
        edges.range("what of a ROW of none", tale(2), v -> x -> x.told(0, 0, 0, v), 0, 2, v -> none[v]);
        edges.range("n, the PLACE", tale(0, new long[20]), v -> x -> x.told(0, 0, v, 0), 0, 20, v -> v % 2);
        edges.range("n, MILES", tale(1, new long[20]), v -> x -> x.told(0, 0, v, 1), 0, 20, v -> 4 * v);
        edges.range("n, PLACES", tale(3, new long[40]), v -> x -> x.told(0, 0, v, 2), 0, 20, v -> v == 0 ? 1 : 3);
        for (int what = 0; what <= 2; what++) {
            int w = what;
            edges.asks("nothing changes, what " + what, tale(2, 0, 1), x -> x.told(0, 0, 2, w), want[what]);
        }
        int[] behind = {2, 7, 6};
        edges.range("what of the tale alone, not of what was gone along ahead", () -> {
            EachRoadOnce x = tale(2, 1, 2).get();
            x.go(0, 0);
            return x;
        }, v -> x -> x.told(0, 0, 1, v), 0, 2, v -> behind[v]);
    }

    private static void toldOrder() {
        edges.of(30, "BAD; OTHER; NOTHING; BAD likewise; STUCK: some can't be gone along.");
        edges.range("one", tale(2, 2), v -> x -> x.told(v, 0, 1, 0), 0, 1, v -> v == 0 ? 2 : 0);
        edges.outside("s", tale(2, 0), v -> x -> x.told(0, v, 1, 0), 0, 7);
        edges.refused("a RULE", tale(2, 0), x -> x.told(0, 1, 0, 0), Check.OTHER);
        edges.refused("NOTHING", tale(2, 0), x -> x.told(0, 2, 0, 0), Check.NOTHING);
        edges.refused("a RULE has fewer elements", tale(2, 0), x -> x.told(0, 1, 20, 0), Check.OTHER);
        edges.refused("NOTHING has fewer elements", tale(2, 0), x -> x.told(0, 2, 20, 0), Check.NOTHING);
        for (int s : new int[] {1, 2}) {
            edges.refused("BAD ONE ahead of what SHELF " + s + " holds", tale(2, 0), x -> x.told(2, s, 0, 0), Check.BAD);
            edges.refused("BAD n ahead of what SHELF " + s + " holds", tale(2, 0), x -> x.told(0, s, 21, 0), Check.BAD);
            edges.refused("BAD n ahead of what SHELF " + s + " holds", tale(2, 0), x -> x.told(0, s, -1, 0), Check.BAD);
            edges.refused("BAD what ahead of what SHELF " + s + " holds", tale(2, 0), x -> x.told(0, s, 0, 3), Check.BAD);
            edges.refused("BAD what ahead of what SHELF " + s + " holds", tale(2, 0), x -> x.told(0, s, 0, -1), Check.BAD);
        }
        edges.range("n of three", tale(2, 0, 0, 0), v -> x -> x.told(0, 0, v, 1), 0, 3, v -> 4 * v);
        edges.refused("BAD what ahead of STUCK", tale(2, 3), x -> x.told(0, 0, 1, 3), Check.BAD);
        edges.refused("fewer elements ahead of STUCK", tale(2, 3), x -> x.told(0, 0, 2, 0), Check.BAD);
        for (int what = 0; what <= 2; what++) {
            int w = what;
            edges.refused("the first can't be", tale(2, 3, 0), x -> x.told(0, 0, 2, w), Check.STUCK);
            edges.refused("the last can't be", tale(2, 0, 3), x -> x.told(0, 0, 2, w), Check.STUCK);
            edges.refused("one twice", tale(2, 2, 2), x -> x.told(0, 0, 2, w), Check.STUCK);
            edges.refused("no ROAD", tale(2, 4), x -> x.told(0, 0, 1, w), Check.STUCK);
            edges.asks("what can't be isn't told", tale(2, 0, 3), x -> x.told(0, 0, 1, w), new int[] {1, 4, 3}[what]);
        }
    }
}
