import java.util.Random;

/** Many runs of calls by draws, each answer held against the Model's: all promises, with numbers that may and may not be. */
public final class ModelTest {
    private static final Check check = new Check();
    private static final int RUNS = 2000;
    /** So many calls, a last one with a text's bytes and the status at last stay below the 512 that an object is used for. */
    private static final int CALLS = 390;
    private static final String[] WORDS =
        {"road", "one", "gone", "at", "anew", "shut", "miles", "round", ";", " ", "x", "roads", "#", "7", "100", "61", "0"};

    private final Random draws;
    private final int trouble;
    /** The last place that is drawn: with few places the nets are dense. */
    private final int lastPlace;
    private EachRoadOnce x = new EachRoadOnce();
    private Model m = new Model();
    private String call = "";
    private long got;
    private long want;
    private int calls;

    private ModelTest(int run) {
        draws = new Random(run);
        trouble = run % 4 == 0 ? 10 : 60;
        lastPlace = run % 3 == 0 ? 7 : 2 + run % 5;
    }

    public static void main(String[] args) {
        for (int run = 0; run < RUNS; run++) {
            new ModelTest(run).calls(run);
        }
        check.end("ModelTest");
    }

    private void calls(int run) {
        while (calls < CALLS) {
            calls++;
            int which = draws.nextInt(calls < 40 ? 30 : 70);
            if (which < 16) {
                build(which);
            } else if (which < 30) {
                shelf(which - 16);
            } else if (which < 50) {
                goOn(which - 30);
            } else {
                ask(which - 50);
            }
            check.due("run " + run + ", call " + calls + ": " + call, got, want);
        }
        for (int what = -1; what <= 17; what++) {
            check.due("run " + run + ", at last status(" + what + ")", x.status(what), m.status(what));
        }
    }

    /** A number from low to high, or now and then one that lies outside. */
    private int some(int low, int high) {
        if (draws.nextInt(trouble) == 0) {
            int[] wild = {low - 1, high + 1, Integer.MIN_VALUE, Integer.MAX_VALUE, -1, 100};
            return wild[draws.nextInt(wild.length)];
        }
        return low + draws.nextInt(Math.max(1, high - low + 1));
    }

    private int someone() {
        return some(0, m.w.people.size() - 1);
    }

    private int someRoad() {
        return some(0, m.w.roads.size() - 1);
    }

    private int someShelf() {
        return some(0, 7);
    }

    private int someRow() {
        return shelfLike(false);
    }

    private int someRule() {
        return shelfLike(true);
    }

    /** Mostly one that holds the right thing. */
    private int shelfLike(boolean rule) {
        int s = someShelf();
        for (int i = 0; i < 6 && draws.nextInt(8) != 0; i++) {
            if (s >= 0 && s < 8 && m.shelves[s] != null && m.shelves[s] instanceof Model.Rule == rule) {
                return s;
            }
            s = someShelf();
        }
        return s;
    }

    private void answer(String made, long gotten, long wanted) {
        call = made;
        got = gotten;
        want = wanted;
    }

    private String statement() {
        int a = draws.nextInt(8);
        switch (draws.nextInt(9)) {
            case 0: case 1: case 2: return "road " + a + " " + (draws.nextInt(20) == 0 ? a : (a + 1 + draws.nextInt(7)) % 8) + "miles "
                + (1 + draws.nextInt(60)) + (draws.nextInt(4) == 0 ? " round" : "");
            case 3: return "one " + a;
            case 4: case 5: return "gone " + draws.nextInt(m.w.people.size() + 1) + " " + draws.nextInt(m.w.roads.size() + 1);
            case 6: return "at " + draws.nextInt(m.w.people.size() + 1) + "  0" + a;
            case 7: return "anew " + draws.nextInt(4);
            default: return "shut " + draws.nextInt(m.w.roads.size() + 1);
        }
    }

    private void land() {
        StringBuilder text = new StringBuilder(statement());
        for (int n = draws.nextInt(3); n > 0; n--) {
            text.append(draws.nextBoolean() ? ";" : " ; ").append(statement());
        }
        for (int n = draws.nextInt(6) - 4; n > 0; n--) {
            text.insert(draws.nextInt(text.length() + 1), WORDS[draws.nextInt(WORDS.length)]);
        }
        if (draws.nextInt(10) == 0) {
            text.setLength(draws.nextInt(text.length()));
        }
        for (int i = 0; i < text.length(); i++) {
            calls++;
            x.feed(text.charAt(i), 1);
            m.feed(text.charAt(i), 1);
        }
        answer("land() of " + m.tape, x.land(), m.land());
    }

    private void build(int which) {
        int a = some(0, lastPlace);
        int b = some(0, lastPlace);
        int n = some(1, 60);
        boolean is = draws.nextInt(4) == 0;
        int road = someRoad();
        switch (which) {
            case 0: case 1: case 2:
                if (m.w.roads.size() < 7 + draws.nextInt(40)) {
                    answer("road(" + a + ", " + b + ", " + n + ", " + is + ")", x.road(a, b, n, is), m.road(a, b, n, is));
                }
                break;
            case 3: answer("one(" + a + ")", x.one(a), m.one(a)); break;
            case 4: answer("shut(" + road + ", " + is + ")", x.shut(road, is), m.shut(road, is)); break;
            case 5: {
                int v = draws.nextInt(3) == 0 ? some(0, 99) : some(0, 3);
                answer("anew(" + v + ")", x.anew(v), m.anew(v));
                break;
            }
            case 6: {
                int v = draws.nextInt();
                int k = some(1, 4);
                answer("feed(" + v + ", " + k + ")", x.feed(v, k), m.feed(v, k));
                break;
            }
            case 7: answer("wipe()", x.wipe(), m.wipe()); break;
            case 8: case 9: if (draws.nextInt(3) == 0) {
                land();
            } break;
            case 10: answer("roadOf", x.roadOf(road, n % 6), m.roadOf(road, n % 6)); break;
            case 11: answer("year()", x.year(), m.year()); break;
            case 12: answer("seed(" + n + ")", x.seed(n), m.seed(n)); break;
            case 13: answer("image()", x.image(), m.image()); break;
            case 14: if (draws.nextInt(3) == 0) {
                answer("back()", x.back(), m.back());
            } break;
            default: {
                int what = some(0, 16);
                answer("status(" + what + ")", x.status(what), m.status(what));
            }
        }
    }

    private void shelf(int which) {
        int s = someShelf();
        int i = some(0, 12);
        switch (which) {
            case 0: case 1: {
                int sort = some(0, 4);
                int n = draws.nextInt(3) == 0 ? some(0, 40) : some(4, 12);
                answer("row(" + s + ", " + sort + ", " + n + ")", x.row(s, sort, n), m.row(s, sort, n));
                break;
            }
            case 2: case 3: case 4: case 5: {
                int r = someRow();
                long v = draws.nextInt(8) == 0 ? draws.nextLong() : draws.nextInt(8);
                answer("set(" + r + ", " + i + ", " + v + ")", x.set(r, i, v), m.set(r, i, v));
                break;
            }
            case 6: {
                int p = someRow();
                int q = draws.nextInt(3) == 0 ? p : someRow();
                int j = some(0, 6);
                int n = some(0, 5);
                answer("copy(" + p + ", " + q + ", " + i + ", " + j + ", " + n + ")", x.copy(p, q, i, j, n), m.copy(p, q, i, j, n));
                break;
            }
            case 7: answer("element(" + s + ", " + i + ")", x.element(s, i), m.element(s, i)); break;
            case 8: answer("holds(" + s + ")", x.holds(s), m.holds(s)); break;
            case 9: case 10: case 11: {
                int kind = some(1, 6);
                int a = some(0, draws.nextInt(3) == 0 ? 99 : 5);
                answer("rule(" + s + ", " + kind + ", " + a + ")", x.rule(s, kind, a), m.rule(s, kind, a));
                break;
            }
            default: {
                int r = someRule();
                int kind = some(0, 6);
                answer("says(" + r + ", " + kind + ")", x.says(r, kind), m.says(r, kind));
            }
        }
    }

    private void goOn(int which) {
        int one = someone();
        int road = someRoad();
        int n = some(0, 60);
        switch (which) {
            case 0: answer("oneOf", x.oneOf(one, n % 5), m.oneOf(one, n % 5)); break;
            case 1: answer("when(" + one + ", " + road + ")", x.when(one, road), m.when(one, road)); break;
            case 2: answer("left(" + one + ")", x.left(one), m.left(one)); break;
            case 3: answer("here(" + one + ")", x.here(one), m.here(one)); break;
            case 4: answer("reach(" + one + ")", x.reach(one), m.reach(one)); break;
            case 5: answer("safe(" + one + ")", x.safe(one), m.safe(one)); break;
            case 6: case 7: case 8: answer("go(" + one + ", " + road + ")", x.go(one, road), m.go(one, road)); break;
            case 9: case 10: {
                int s = someRule();
                answer("next(" + s + ", " + one + ")", x.next(s, one), m.next(s, one));
                break;
            }
            case 11: case 12: case 13: {
                int s = someRule();
                int what = some(0, 4);
                answer("run(" + s + ", " + one + ", " + n + ", " + what + ")", x.run(s, one, n, what), m.run(s, one, n, what));
                break;
            }
            case 14: answer("head(" + one + ")", x.head(one), m.head(one)); break;
            case 15: {
                int s = someRule();
                int few = draws.nextInt(4) == 0 ? n : some(0, 2);
                answer("lives(" + s + ", " + one + ", " + few + ")", x.lives(s, one, few), m.lives(s, one, few));
                break;
            }
            case 16: case 17: case 18: {
                int s = tale(one);
                int few = some(0, draws.nextInt(5) == 0 ? 20 : 5);
                int what = some(0, 2);
                if (which == 16) {
                    answer("judge(" + one + ", " + s + ", " + few + ")", x.judge(one, s, few), m.judge(one, s, few));
                } else {
                    answer("told(" + one + ", " + s + ", " + few + ", " + what + ")", x.told(one, s, few, what), m.told(one, s, few, what));
                }
                break;
            }
            default: answer("wander(" + one + ", " + n + ")", x.wander(one, n), m.wander(one, n));
        }
    }

    /** Mostly a shelf with a row that begins with roads which one can go along. */
    private int tale(int one) {
        int s = someRow();
        if (s < 0 || s > 7 || !(m.shelves[s] instanceof Model.Row) || !m.isOne(one)) {
            return s;
        }
        Model.World v = m.w.copy();
        Model.One o = v.people.get(one);
        int size = ((Model.Row) m.shelves[s]).e.length;
        for (int i = 0; i < size && i < 5 && !v.here(o).isEmpty(); i++) {
            int road = v.here(o).get(draws.nextInt(v.here(o).size()));
            calls++;
            x.set(s, i, road);
            m.set(s, i, road);
            v.go(o, road);
        }
        return s;
    }

    private void ask(int which) {
        int one = someone();
        int a = some(0, lastPlace);
        int b = some(0, lastPlace);
        int what = some(0, 2);
        if (!m.canAsk(one, which == 3 || which == 4 ? 7 : 8)) {
            if (which != 5 && which != 8 || m.canAsk(one, 12)) {
                which = 10;
            }
        }
        switch (which) {
            case 0: answer("law(" + one + ", " + what + ")", x.law(one, what + 1), m.law(one, what + 1)); break;
            case 1: answer("law(" + one + ", 0)", x.law(one, 0), m.law(one, 0)); break;
            case 2: answer("all(" + one + ")", x.all(one), m.all(one)); break;
            case 3: case 15: case 16: {
                int i = some(0, m.isOne(one) ? m.w.such(m.who(one)).size() - 1 : 0);
                answer("way(" + one + ", " + i + ")", x.way(one, i), m.way(one, i));
                break;
            }
            case 4: answer("lacks(" + one + ")", x.lacks(one), m.lacks(one)); break;
            case 5: answer("longest(" + one + ", " + what + ")", x.longest(one, what), m.longest(one, what)); break;
            case 6: answer("errands", x.errands(one, a, b), m.errands(one, a, b)); break;
            case 7: answer("cut(" + one + ", " + a + ", " + b + ")", x.cut(one, a, b), m.cut(one, a, b)); break;
            case 8: case 9: {
                int s = someRow();
                int n = some(0, 8);
                answer("meets(" + one + ", " + s + ", " + n + ")", x.meets(one, s, n), m.meets(one, s, n));
                break;
            }
            case 10: answer("near(" + one + ", " + a + ")", x.near(one, a), m.near(one, a)); break;
            case 11: case 12: {
                int other = someone();
                answer("together(" + one + ", " + other + ", " + what + ")", x.together(one, other, what), m.together(one, other, what));
                break;
            }
            case 13: answer("frees(" + one + ")", x.frees(one), m.frees(one)); break;
            case 14: {
                int road = someRoad();
                answer("send(" + one + ", " + road + ")", x.send(one, road), m.send(one, road));
                break;
            }
            default: answer("fast", x.fast(what == 0), m.fast(what == 0));
        }
    }
}
