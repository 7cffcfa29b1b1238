/** Promises 9 to 18: the land by calls and by texts, and what there is of roads and people. */
public final class LandTest {
    private static final Check check = new Check();

    public static void main(String[] args) {
        road();
        one();
        shut();
        anew();
        feed();
        wipe();
        landComes();
        landFaults();
        landRoom();
        landOrNothing();
        roadOf();
        oneOf();
        when();
        check.end("LandTest");
    }

    private static void road() {
        EachRoadOnce x = new EachRoadOnce();
        check.due("road", x.road(0, 7, 1, false), 0);
        check.due("road", x.road(7, 0, 60, true), 1);
        for (int i = 2; i < 16; i++) {
            check.due("road", x.road(3, 4, 5, false), i);
        }
        check.refused("a road too many", x, y -> y.road(0, 1, 1, false), Check.FULL);
        check.due("a bad road too many", x.road(0, 0, 1, false), Check.BAD);
        check.refused("road from -1", Check.some(), y -> y.road(-1, 1, 1, false), Check.BAD);
        check.refused("road from 8", Check.some(), y -> y.road(8, 1, 1, false), Check.BAD);
        check.refused("road to -1", Check.some(), y -> y.road(1, -1, 1, false), Check.BAD);
        check.refused("road to 8", Check.some(), y -> y.road(1, 8, 1, true), Check.BAD);
        check.refused("road to itself", Check.some(), y -> y.road(1, 1, 1, true), Check.BAD);
        check.refused("road of 0 miles", Check.some(), y -> y.road(1, 2, 0, true), Check.BAD);
        check.refused("road of 61 miles", Check.some(), y -> y.road(1, 2, 61, true), Check.BAD);
    }

    private static void one() {
        EachRoadOnce x = new EachRoadOnce();
        for (int i = 0; i < 6; i++) {
            check.due("one", x.one(7 - i), i);
            check.due("their home", x.oneOf(i, 0), 7 - i);
        }
        check.refused("one too many", x, y -> y.one(0), Check.FULL);
        check.due("a bad one too many", x.one(8), Check.BAD);
        check.refused("one at -1", Check.some(), y -> y.one(-1), Check.BAD);
        check.refused("one at 8", Check.some(), y -> y.one(8), Check.BAD);
        EachRoadOnce y = Check.some();
        y.one(0);
        check.due("a new one has gone nowhere", y.when(2, 0), -1);
        check.due("all is left to a new one", y.left(2), 7);
    }

    private static void shut() {
        EachRoadOnce x = Check.some();
        check.due("open an open one", x.shut(1, false), 0);
        check.due("shut", x.shut(1, true), 1);
        check.due("shut roads", x.status(8), 1);
        check.due("shut again", x.shut(1, true), 0);
        check.due("left without it", x.left(1), 5);
        check.due("shut the round one", x.shut(2, true), 1);
        check.due("left without both", x.left(1), 1);
        check.due("open", x.shut(1, false), 1);
        check.due("left again", x.left(1), 3);
        check.refused("shut -1", Check.some(), y -> y.shut(-1, true), Check.BAD);
        check.refused("shut 3", Check.some(), y -> y.shut(3, false), Check.BAD);
    }

    private static void anew() {
        EachRoadOnce x = Check.some();
        check.due("anew", x.anew(2), 0);
        check.due("anew", x.anew(99), 2);
        check.due("anew", x.status(3), 99);
        check.due("anew", x.anew(0), 99);
        check.refused("anew -1", Check.some(), y -> y.anew(-1), Check.BAD);
        check.refused("anew 100", Check.some(), y -> y.anew(100), Check.BAD);
        EachRoadOnce y = Check.some();
        y.anew(2);
        check.due("gone this year", y.left(0), 6);
        y.year();
        check.due("gone last year", y.left(0), 6);
        y.year();
        check.due("gone two years ago", y.left(0), 7);
        check.due("still told", y.when(0, 0), 1);
        y.anew(3);
        check.due("by another anew", y.left(0), 6);
        y.anew(1);
        check.due("by a shorter one", y.left(0), 7);
        y.anew(0);
        check.due("never", y.left(0), 6);
    }

    private static void feed() {
        EachRoadOnce x = new EachRoadOnce();
        check.due("feed 1", x.feed(0x11223300 + 'o', 1), 1);
        check.due("feed 3", x.feed('x' << 24 | 'n' << 16 | 'e' << 8 | ' ', 3), 4);
        check.due("feed 2", x.feed('5' << 8 | ';', 2), 6);
        check.due("feed 4", x.feed('o' << 24 | 'n' << 16 | 'e' << 8 | '6', 4), 10);
        check.due("tape", x.status(5), 10);
        check.due("land", x.land(), 2);
        check.due("home", x.oneOf(0, 0), 5);
        check.due("home", x.oneOf(1, 0), 6);
        check.refused("feed 0", Check.some(), y -> y.feed(1, 0), Check.BAD);
        check.refused("feed 5", Check.some(), y -> y.feed(1, 5), Check.BAD);
        check.refused("feed -1", Check.some(), y -> y.feed(1, -1), Check.BAD);
        EachRoadOnce full = new EachRoadOnce();
        for (int i = 1; i <= 62; i++) {
            check.due("feed", full.feed(0x20202020, 4), 4 * i);
        }
        check.refused("feed over the end", full, y -> y.feed(1, 3), Check.FULL);
        check.due("feed to the end", full.feed(0, 2), 250);
        check.refused("feed behind the end", full, y -> y.feed(1, 1), Check.FULL);
        check.due("feed a bad number behind the end", full.feed(1, 9), Check.BAD);
        check.due("a byte that begins none, behind blanks", full.land(), -20 - 248);
    }

    private static void wipe() {
        EachRoadOnce x = new EachRoadOnce();
        check.due("wipe", x.wipe(), 0);
        Check.feedText(x, "one 3");
        check.due("wipe", x.wipe(), 5);
        check.due("tape", x.status(5), 0);
        check.due("land of what is behind", Check.landOf(x, "anew 7"), 1);
        check.due("people", x.status(1), 0);
    }

    private static void landComes() {
        EachRoadOnce x = new EachRoadOnce();
        x.road(5, 6, 1, false);
        x.year();
        String text = "  road 0 1miles09  ;road7 3 miles 60round;one 00;one1;gone 1 0;gone 1 0;at 0 4;anew 99;shut 2 ;anew 0;anew 12 ";
        check.due("land", Check.landOf(x, text), 11);
        int[][] roads = {{5, 6, 1, 0, 0}, {0, 1, 9, 0, 0}, {7, 3, 60, 1, 1}};
        for (int road = 0; road < 3; road++) {
            for (int what = 0; what <= 4; what++) {
                check.due("road " + road + " " + what, x.roadOf(road, what), roads[road][what]);
            }
        }
        int[][] people = {{0, 4, 0x11, 0}, {1, 1, 2, 2}};
        for (int one = 0; one < 2; one++) {
            for (int what = 0; what <= 3; what++) {
                check.due("one " + one + " " + what, x.oneOf(one, what), people[one][what]);
            }
        }
        check.due("gone in the year", x.when(1, 0), 1);
        check.due("not gone", x.when(1, 1), -1);
        check.due("gone in all", x.status(4), 2);
        check.due("anew", x.status(3), 12);
        check.due("shut roads", x.status(8), 1);
        check.due("the tape", x.status(5), 0);
        check.due("no refusals", x.status(12), 0);
        check.due("one statement", Check.landOf(x, "shut 2"), 1);
        check.due("is shut still", x.roadOf(2, 3), 1);
        check.due("shut more", Check.landOf(x, "shut 0;at 1 7"), 2);
        check.due("shut roads", x.status(8), 2);
        check.due("at the last place", x.oneOf(1, 1), 7);
        check.due("gone along a shut one", Check.landOf(x, "gone 0 2"), 1);
        check.due("gone along it", x.oneOf(0, 3), 1);
    }

    /** The text is at fault at the place of its first '!', which isn't part of it; at its end without one. */
    private static void faultAt(String told) {
        int fault = told.indexOf('!');
        String text = fault < 0 ? told : told.substring(0, fault) + told.substring(fault + 1);
        int place = fault < 0 ? text.length() : fault;
        EachRoadOnce x = Check.some();
        x.wipe();
        String ahead = Check.picture(x);
        int bad = x.status(12);
        check.due("land of <" + text + ">", Check.landOf(x, text), -20 - place);
        check.due("<" + text + "> is refused", x.status(12), bad + 1);
        check.holds("<" + text + "> changes nothing, the tape is empty", Check.picture(x).equals(ahead));
    }

    private static void landFaults() {
        String[] told = {
            "", "   ", "!;", "one 1;", "one 1;  ", "one 1;!;one 1", "road", "road 1", "road 1 2", "road 1 2 miles",
            "road 1 2 miles 3;", "gone", "gone 1", "at", "at 1", "anew", "shut", "one", "one ",
            "!roads 1 2 miles 3", "!roadz 1", "!xoad 1 2 miles 3", "!azat", "!roa 1 2", "!miles 3", "!round", "!5", "!One 1", "!\u00e9", "!\u0000", "!\t one 1", "!-1",
            "road !8 2 miles 3", "road 1 !8 miles 3", "road !001 2 miles 3", "road !x", "road 1 !1 miles 2", "road 1 !01 miles 2",
            "road 1 !miles", "road 1 2 !3", "road 1 2 !mile 3", "road 1 2 miles !0", "road 1 2 miles !61", "road 1 2 miles !100",
            "road 1 2 miles !round", "road 1 2 miles 3 !4", "road 1 2 miles 3 !rounds", "road 1 2 miles 3 round !round",
            "road 1 2 miles 3 round !one 1", "road 1 2 miles !;", "road 1 2 miles 3!,", "road 1!-2 miles 3",
            "one !8", "one !10", "one 1 !1", "one 1 !one 1", "one1!\u007f", "one 1;!two 2", "one !one",
            "gone !2 0", "gone 0 !3", "one 1;gone 2 !3", "gone !2 0;one 3", "one 3;gone 2 2;gone !3 2", "gone 1 !99", "gone 1 !003",
            "road 1 2 miles 3;gone 0 !4", "gone !99 99", "gone !;", "at !2 1", "at 1 !8", "at 1 !at", "anew !100", "anew !000",
            "anew !x", "anew 99 !9", "shut !3", "shut 2 !2", "shut !3;road 1 2 miles 3", "shut 1!:", "one 1;shut 2;anew 5;!x"
        };
        for (String text : told) {
            faultAt(text);
        }
    }

    private static void landRoom() {
        EachRoadOnce x = new EachRoadOnce();
        for (int i = 0; i < 15; i++) {
            x.road(1, 2, 3, false);
        }
        check.due("one road too many", Check.landOf(x, "road 1 2 miles 3; road 1 2 miles 3"), -20 - 18);
        check.due("none has come", x.status(0), 15);
        check.due("the last", Check.landOf(x, "road 1 2 miles 3"), 1);
        check.due("its word, even without more", Check.landOf(x, " road"), -21);
        check.due("its word, ahead of what is wrong behind", Check.landOf(x, "one 1;road 1 1"), -20 - 6);
        for (int i = 0; i < 5; i++) {
            x.one(i);
        }
        check.due("one too many", Check.landOf(x, "one 1;one 2"), -20 - 6);
        check.due("the last one", Check.landOf(x, "one 1;gone 5 15;at 5 2"), 3);
        check.due("one more", Check.landOf(x, "one 9"), -20);
        EachRoadOnce y = new EachRoadOnce();
        StringBuilder most = new StringBuilder("anew 1");
        while (most.length() < 250) {
            most.append(most.length() <= 243 ? ";anew2" : " ");
        }
        check.due("all of the tape", Check.landOf(y, most.toString()), 41);
        check.due("anew", y.status(3), 2);
    }

    private static void landOrNothing() {
        EachRoadOnce x = Check.some();
        x.wipe();
        String ahead = Check.picture(x);
        x.image();
        String text = "road 3 4 miles 5 round;one 4;gone 0 1;at 1 5;anew 5;shut 1;gone 2 3;x";
        check.due("a long way to a fault", Check.landOf(x, text), -20 - text.indexOf('x'));
        check.holds("nothing has come of it", Check.picture(x).equals(ahead));
        x.one(4);
        x.road(3, 4, 5, false);
        check.due("what the fault left behind isn't there", x.when(2, 3), -1);
        check.due("nor here", x.left(2), 15);
        check.due("nor here", x.oneOf(2, 3), 0);
        check.due("nor here", x.oneOf(2, 2), 16);
    }

    private static void roadOf() {
        int[][] want = {{0, 1, 5, 0, 0}, {1, 2, 7, 0, 0}, {2, 0, 3, 0, 1}};
        for (int i = 0; i < 15; i++) {
            int road = i / 5;
            int what = i % 5;
            check.asks("roadOf", Check.some(), x -> x.roadOf(road, what), want[road][what]);
        }
        check.refused("roadOf -1", Check.some(), x -> x.roadOf(-1, 0), Check.BAD);
        check.refused("roadOf 3", Check.some(), x -> x.roadOf(3, 0), Check.BAD);
        check.refused("roadOf what -1", Check.some(), x -> x.roadOf(0, -1), Check.BAD);
        check.refused("roadOf what 5", Check.some(), x -> x.roadOf(0, 5), Check.BAD);
    }

    private static void oneOf() {
        int[][] want = {{0, 1, 3, 1}, {2, 2, 4, 0}};
        for (int i = 0; i < 8; i++) {
            int one = i / 4;
            int what = i % 4;
            check.asks("oneOf", Check.some(), x -> x.oneOf(one, what), want[one][what]);
        }
        check.refused("oneOf -1", Check.some(), x -> x.oneOf(-1, 0), Check.BAD);
        check.refused("oneOf 2", Check.some(), x -> x.oneOf(2, 0), Check.BAD);
        check.refused("oneOf what -1", Check.some(), x -> x.oneOf(0, -1), Check.BAD);
        check.refused("oneOf what 4", Check.some(), x -> x.oneOf(0, 4), Check.BAD);
    }

    private static void when() {
        check.asks("when", Check.some(), x -> x.when(0, 0), 1);
        check.asks("when never", Check.some(), x -> x.when(0, 1), -1);
        check.asks("when of the other", Check.some(), x -> x.when(1, 0), -1);
        check.refused("when of -1", Check.some(), x -> x.when(-1, 0), Check.BAD);
        check.refused("when of 2", Check.some(), x -> x.when(2, 0), Check.BAD);
        check.refused("when on -1", Check.some(), x -> x.when(0, -1), Check.BAD);
        check.refused("when on 3", Check.some(), x -> x.when(0, 3), Check.BAD);
        EachRoadOnce x = Check.some();
        Check.go(x, 1, 2);
        check.due("when in the year", x.when(1, 2), 1);
        x.year();
        Check.go(x, 1, 2);
        check.due("when last", x.when(1, 2), 2);
    }
}
