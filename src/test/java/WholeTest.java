/** Promises 45 to 48: seed, image, back, status. */
public final class WholeTest {
    private static final Check check = new Check();

    public static void main(String[] args) {
        seed();
        imageAndBack();
        backAgain();
        status();
        check.end("WholeTest");
    }

    private static void seed() {
        EachRoadOnce x = new EachRoadOnce();
        check.due("seed", x.seed(Integer.MIN_VALUE), 1);
        check.due("seed", x.seed(-5), Integer.MIN_VALUE);
        check.due("seed", x.status(6), -5);
        check.due("seed", x.seed(0), -5);
    }

    private static void imageAndBack() {
        EachRoadOnce x = Check.some();
        check.refused("back ahead of an image", x, y -> y.back(), Check.STUCK);
        x.seed(42);
        x.anew(6);
        String ahead = Check.picture(x);
        check.due("image", x.image(), 1);
        x.road(5, 6, 7, true);
        x.one(5);
        x.shut(0, true);
        x.anew(3);
        x.year();
        x.year();
        Check.go(x, 0, 1, 2);
        x.wander(1, 3);
        x.seed(9);
        check.holds("all has changed", !Check.picture(x).equals(ahead));
        check.due("back", x.back(), 1);
        check.holds("all is as it was", Check.picture(x).equals(ahead));
    }

    private static void backAgain() {
        EachRoadOnce x = Check.some();
        x.image();
        x.row(6, 1, 2);
        x.rule(0, 4, 4);
        x.feed(0x65203500, 3);
        check.due("a refusal", x.one(8), Check.BAD);
        check.due("back", x.back(), 1);
        check.due("shelves stay", x.holds(6), 1);
        check.due("shelves stay", x.says(0, 0), 4);
        check.due("the tape stays", x.status(5), 5);
        check.due("refusals stay", x.status(12), 1);
        x.one(4);
        check.due("a new one behind back", x.when(2, 0), -1);
        Check.go(x, 0, 1);
        check.due("back again", x.back(), 1);
        check.due("where they were", x.oneOf(0, 1), 1);
        check.due("how many there were", x.status(1), 2);
        x.year();
        x.image();
        x.year();
        x.back();
        check.due("the later image", x.status(2), 2);
        x.road(4, 5, 1, false);
        x.one(4);
        x.go(2, 3);
        x.back();
        x.road(4, 5, 1, false);
        x.one(4);
        check.due("what wasn't kept is gone", x.when(2, 3), -1);
        check.due("what wasn't kept is gone", x.oneOf(2, 2), 16);
        check.due("what wasn't kept is gone", x.oneOf(2, 3), 0);
        check.due("what wasn't kept is gone", x.roadOf(3, 4), 0);
    }

    private static void status() {
        int[] want = {3, 2, 1, 0, 1, 2, 1, 5, 0, -1, -1, -1, 0, 0, 0, 0, 0, -1};
        for (int what = 0; what < want.length; what++) {
            int w = what;
            check.asks("status(" + what + ")", Check.some(), x -> x.status(w), want[what]);
        }
        check.asks("status(-1)", Check.some(), x -> x.status(-1), -1);
        check.asks("status of the least", Check.some(), x -> x.status(Integer.MIN_VALUE), -1);
        check.asks("status of the most", Check.some(), x -> x.status(Integer.MAX_VALUE), -1);
        EachRoadOnce x = Check.some();
        x.shut(0, true);
        x.shut(2, true);
        check.due("shut roads", x.status(8), 2);
        Check.landOf(x, "x");
        for (int i = 0; i < 2; i++) {
            x.set(2, 0, 0);
        }
        for (int i = 0; i < 3; i++) {
            x.set(7, 0, 0);
        }
        for (int i = 0; i < 4; i++) {
            x.go(0, 0);
        }
        for (int i = 0; i < 5; i++) {
            x.one(0);
        }
        for (int i = 0; i < 5; i++) {
            check.due("refusals " + (-2 - i), x.status(12 + i), new int[] {1, 2, 3, 4, 1}[i]);
        }
    }
}
