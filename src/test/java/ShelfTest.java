/** Promises 1 to 8: a new object, ROWS and RULES in SHELVES. */
public final class ShelfTest {
    private static final Check check = new Check();

    public static void main(String[] args) {
        newObject();
        row();
        set();
        copy();
        copyRefusals();
        element();
        holds();
        rule();
        says();
        saysRefusals();
        check.end("ShelfTest");
    }

    private static void newObject() {
        EachRoadOnce x = new EachRoadOnce();
        for (int what = 0; what <= 16; what++) {
            int want = what == 6 ? 1 : what >= 9 && what <= 11 ? -1 : 0;
            check.due("new: status(" + what + ")", x.status(what), want);
        }
        for (int s = 0; s < 8; s++) {
            check.due("new: holds", x.holds(s), -1);
        }
        check.due("new: back", x.back(), Check.STUCK);
        EachRoadOnce y = new EachRoadOnce();
        x.one(3);
        check.due("objects are apart", y.status(1), 0);
    }

    private static void row() {
        EachRoadOnce x = new EachRoadOnce();
        for (int sort = 0; sort <= 4; sort++) {
            check.due("row", x.row(sort, sort, 40), 1);
            check.due("holds", x.holds(sort), sort);
            check.due("its last", x.set(sort, 39, 1), 1);
        }
        check.due("row of none", x.row(7, 0, 0), 1);
        check.due("set in a row of none", x.set(7, 0, 0), Check.BAD);
        x.set(2, 0, 77);
        check.due("row again", x.row(2, 2, 3), 1);
        check.due("new elements", x.element(2, 0), 0);
        check.due("fewer elements", x.set(2, 3, 0), Check.BAD);
        x.rule(3, 1, 0);
        check.due("row in place of a rule", x.row(3, 4, 1), 1);
        check.due("holds", x.holds(3), 4);
        check.refused("row(-1)", Check.some(), y -> y.row(-1, 0, 1), Check.BAD);
        check.refused("row(8)", Check.some(), y -> y.row(8, 0, 1), Check.BAD);
        check.refused("row sort -1", Check.some(), y -> y.row(0, -1, 1), Check.BAD);
        check.refused("row sort 5", Check.some(), y -> y.row(0, 5, 1), Check.BAD);
        check.refused("row n -1", Check.some(), y -> y.row(0, 0, -1), Check.BAD);
        check.refused("row n 41", Check.some(), y -> y.row(0, 0, 41), Check.BAD);
        check.refused("row n least", Check.some(), y -> y.row(0, 0, Integer.MIN_VALUE), Check.BAD);
    }

    private static void set() {
        long v = 0x123456789abcdef8L;
        long[] told = {(byte) v, (short) v, (int) v, v, 1};
        for (int sort = 0; sort <= 4; sort++) {
            EachRoadOnce x = new EachRoadOnce();
            x.row(5, sort, 2);
            check.due("set", x.set(5, 1, v), 1);
            check.due("element of sort " + sort, x.element(5, 1), told[sort]);
            check.due("the other", x.element(5, 0), 0);
            x.set(5, 1, 256);
            check.due("256 in sort " + sort, x.element(5, 1), new long[] {0, 256, 256, 256, 1}[sort]);
            x.set(5, 1, 128);
            check.due("128 in sort " + sort, x.element(5, 1), new long[] {-128, 128, 128, 128, 1}[sort]);
            x.set(5, 1, 1L << 32);
            check.due("2 to the 32 in sort " + sort, x.element(5, 1), new long[] {0, 0, 0, 1L << 32, 1}[sort]);
            x.set(5, 1, 0);
            check.due("0 in sort " + sort, x.element(5, 1), 0);
        }
        check.refused("set in no shelf", Check.some(), x -> x.set(8, 0, 1), Check.BAD);
        check.refused("set in shelf -1", Check.some(), x -> x.set(-1, 0, 1), Check.BAD);
        check.refused("set in a rule", Check.some(), x -> x.set(2, -1, 1), Check.OTHER);
        check.refused("set in nothing", Check.some(), x -> x.set(5, -1, 1), Check.NOTHING);
        check.refused("set at -1", Check.some(), x -> x.set(0, -1, 1), Check.BAD);
        check.refused("set at 4", Check.some(), x -> x.set(0, 4, 1), Check.BAD);
    }

    private static void copy() {
        EachRoadOnce x = new EachRoadOnce();
        Check.fill(x, 0, 2, 1, 2, 3, 4, 5);
        x.row(1, 2, 3);
        check.due("copy", x.copy(0, 1, 3, 1, 2), 2);
        check.due("copied", x.element(1, 0), 0);
        check.due("copied", x.element(1, 1), 4);
        check.due("copied", x.element(1, 2), 5);
        check.due("copy up in itself", x.copy(0, 0, 0, 1, 4), 4);
        for (int i = 0; i < 5; i++) {
            check.due("as they were", x.element(0, i), new int[] {1, 1, 2, 3, 4}[i]);
        }
        check.due("copy down in itself", x.copy(0, 0, 2, 0, 3), 3);
        for (int i = 0; i < 5; i++) {
            check.due("as they were", x.element(0, i), new int[] {2, 3, 4, 3, 4}[i]);
        }
        check.due("copy of none", x.copy(0, 1, 5, 3, 0), 0);
        check.due("copy of none from none", x.copy(1, 1, 0, 0, 0), 0);
    }

    private static void copyRefusals() {
        check.refused("copy from no shelf", Check.some(), x -> x.copy(-1, 2, 0, 0, 1), Check.BAD);
        check.refused("copy to no shelf", Check.some(), x -> x.copy(2, 8, 0, 0, 1), Check.BAD);
        check.refused("copy from a rule to nothing", Check.some(), x -> x.copy(2, 5, 0, 0, 1), Check.OTHER);
        check.refused("copy from nothing to a rule", Check.some(), x -> x.copy(5, 2, 0, 0, 1), Check.OTHER);
        check.refused("copy of two sorts", Check.some(), x -> x.copy(0, 1, -1, 0, 1), Check.OTHER);
        check.refused("copy from nothing", Check.some(), x -> x.copy(5, 0, -1, 0, 1), Check.NOTHING);
        check.refused("copy to nothing", Check.some(), x -> x.copy(0, 5, -1, 0, 1), Check.NOTHING);
        check.refused("copy from -1", Check.some(), x -> x.copy(0, 0, -1, 0, 1), Check.BAD);
        check.refused("copy to -1", Check.some(), x -> x.copy(0, 0, 0, -1, 1), Check.BAD);
        check.refused("copy of -1", Check.some(), x -> x.copy(0, 0, 2, 2, -1), Check.BAD);
        check.refused("copy past the source's end", Check.some(), x -> x.copy(0, 0, 3, 0, 2), Check.BAD);
        check.refused("copy past the target's end", Check.some(), x -> x.copy(0, 0, 0, 3, 2), Check.BAD);
        check.refused("copy of none behind the end", Check.some(), x -> x.copy(0, 0, 5, 0, 0), Check.BAD);
        check.refused("copy of the most", Check.some(), x -> x.copy(0, 0, 1, 0, Integer.MAX_VALUE), Check.BAD);
        check.refused("copy from the most", Check.some(), x -> x.copy(0, 0, Integer.MAX_VALUE, 0, 1), Check.BAD);
        check.refused("copy to an empty row", Check.some(), x -> x.copy(0, 4, 0, 0, 1), Check.BAD);
    }

    private static void element() {
        int[] shelves = {-1, 8, 5, 2, 0, 0, 4};
        int[] places = {0, 0, 0, 0, -1, 4, 0};
        for (int i = 0; i < shelves.length; i++) {
            int s = shelves[i];
            int place = places[i];
            check.asks("element(" + s + ", " + place + ")", Check.some(), x -> x.element(s, place), 0);
        }
        check.asks("element(0, 2)", Check.some(), x -> x.element(0, 2), 9);
    }

    private static void holds() {
        int[] want = {2, 0, 11, 15, 2, -1, -1, -1};
        for (int s = 0; s < 8; s++) {
            int shelf = s;
            check.asks("holds(" + s + ")", Check.some(), x -> x.holds(shelf), want[s]);
        }
        check.asks("holds(-1)", Check.some(), x -> x.holds(-1), -1);
        check.asks("holds(8)", Check.some(), x -> x.holds(8), -1);
    }

    private static void rule() {
        EachRoadOnce x = new EachRoadOnce();
        for (int kind = 1; kind <= 6; kind++) {
            check.due("rule", x.rule(kind, kind, kind == 1 ? 0 : 99), 1);
            check.due("holds", x.holds(kind), 10 + kind);
            check.due("its a", x.says(kind, 0), kind == 1 ? 0 : 99);
        }
        x.row(0, 0, 4);
        check.due("rule in place of a row", x.rule(0, 1, 1), 1);
        check.due("no element of a rule", x.element(0, 0), 0);
        check.refused("rule in no shelf", Check.some(), y -> y.rule(8, 1, 0), Check.BAD);
        check.refused("rule in shelf -1", Check.some(), y -> y.rule(-1, 1, 0), Check.BAD);
        check.refused("rule of kind 0", Check.some(), y -> y.rule(0, 0, 0), Check.BAD);
        check.refused("rule of kind 7", Check.some(), y -> y.rule(0, 7, 0), Check.BAD);
        check.refused("rule by -1", Check.some(), y -> y.rule(0, 1, -1), Check.BAD);
        check.refused("rule by 100", Check.some(), y -> y.rule(0, 1, 100), Check.BAD);
    }

    /** From place 0: road 0 is nearest and leads into a corner, 1 is the one to a new place, 2 the farthest. */
    private static EachRoadOnce fork() {
        EachRoadOnce x = Check.read("road 0 1 miles 9;road 0 2 miles 4;road 0 3 miles 20;road 0 3 miles 30 round;"
            + "one 0;one 3;at 0 2;at 0 3;at 0 0");
        for (int kind = 1; kind <= 6; kind++) {
            x.rule(kind, kind, kind);
        }
        return x;
    }

    private static void says() {
        int[] above = {-1, 0, 1, 1, 0, 2, 0};
        // By their own kinds: nearest 1; behind 2 (then home by 3) and 3 one is safe; to a place not been to: 0.
        int[] said = {-1, 1, 2, 0, 3, 2, 0};
        for (int kind = 1; kind <= 6; kind++) {
            for (int as = 0; as <= 6; as++) {
                boolean under = as == kind || as == above[kind] || as == above[above[kind]] || as == 0;
                int want = as == 0 ? kind : said[kind];
                int s = kind;
                int k = as;
                if (under) {
                    check.asks("kind " + kind + " says as " + as, fork(), x -> x.says(s, k), want);
                } else {
                    check.refused("kind " + kind + " says as " + as, fork(), x -> x.says(s, k), Check.OTHER);
                }
            }
        }
        EachRoadOnce x = fork();
        x.rule(5, 5, 0);
        check.due("home by 0 at home", x.says(5, 5), -1);
        x.rule(5, 5, 1);
        check.due("home by 1 at home, as the first", x.says(5, 5), 2);
        Check.go(x, 0, 1);
        check.due("none left there", x.says(1, 1), -1);
    }

    private static void saysRefusals() {
        check.refused("says of no shelf", Check.some(), x -> x.says(8, 0), Check.BAD);
        check.refused("says of shelf -1", Check.some(), x -> x.says(-1, 0), Check.BAD);
        check.refused("says of kind -1", Check.some(), x -> x.says(2, -1), Check.BAD);
        check.refused("says of kind 7", Check.some(), x -> x.says(5, 7), Check.BAD);
        check.refused("says of a row", Check.some(), x -> x.says(0, 0), Check.OTHER);
        check.refused("says of a kind that it isn't", Check.some(), x -> x.says(2, 2), Check.OTHER);
        check.refused("says of nothing", Check.some(), x -> x.says(5, 0), Check.NOTHING);
        EachRoadOnce x = new EachRoadOnce();
        x.rule(0, 2, 33);
        check.due("says as RULE without people", x.says(0, 0), 33);
        check.refused("says without people", x, y -> y.says(0, 1), Check.STUCK);
        check.refused("says of another kind without people", x, y -> y.says(0, 4), Check.OTHER);
    }
}
