import java.util.ArrayList;
import java.util.HashMap;
import java.util.List;
import java.util.Map;
import java.util.TreeSet;
import java.util.regex.Matcher;
import java.util.regex.Pattern;

/**
 * The document again, written down for a second time in the slowest and plainest way: what EachRoadOnce answers is held
 * against it. Where it would try out too much, canAsk() says so.
 */
final class Model {
    static final int BAD = -2;
    static final int OTHER = -3;
    static final int NOTHING = -4;
    static final int STUCK = -5;
    static final int FULL = -6;

    static final class Road {
        int a;
        int b;
        int miles;
        boolean shut;
        boolean round;

        int other(int place) {
            return a + b - place;
        }

        boolean at(int place) {
            return a == place || b == place;
        }
    }

    static final class One {
        int home;
        int place;
        TreeSet<Integer> been = new TreeSet<>();
        int gone;
        Map<Integer, Integer> when = new HashMap<>();
    }

    static final class World {
        List<Road> roads = new ArrayList<>();
        List<One> people = new ArrayList<>();
        int year;
        int anew;
        int seed = 1;

        World copy() {
            World w = new World();
            for (Road r : roads) {
                w.build(r.a, r.b, r.miles, r.round).shut = r.shut;
            }
            for (One o : people) {
                One p = w.settle(o.home);
                p.place = o.place;
                p.been = new TreeSet<>(o.been);
                p.gone = o.gone;
                p.when = new HashMap<>(o.when);
            }
            w.year = year;
            w.anew = anew;
            w.seed = seed;
            return w;
        }

        Road build(int a, int b, int miles, boolean round) {
            Road r = new Road();
            r.a = a;
            r.b = b;
            r.miles = miles;
            r.round = round;
            roads.add(r);
            return r;
        }

        One settle(int home) {
            One o = new One();
            o.home = home;
            o.place = home;
            o.been.add(home);
            people.add(o);
            return o;
        }

        boolean left(One o, int road) {
            Road r = roads.get(road);
            if (r.shut) {
                return false;
            }
            if (r.round || !o.when.containsKey(road)) {
                return true;
            }
            return anew != 0 && o.when.get(road) + anew <= year;
        }

        List<Integer> left(One o) {
            List<Integer> list = new ArrayList<>();
            for (int i = 0; i < roads.size(); i++) {
                if (left(o, i)) {
                    list.add(i);
                }
            }
            return list;
        }

        List<Integer> here(One o) {
            List<Integer> list = left(o);
            list.removeIf(i -> !roads.get(i).at(o.place));
            return list;
        }

        List<Integer> such(One o) {
            List<Integer> list = left(o);
            list.removeIf(i -> roads.get(i).round);
            return list;
        }

        TreeSet<Integer> reachFrom(int start, List<Integer> among) {
            TreeSet<Integer> seen = new TreeSet<>();
            visit(start, among, seen);
            return seen;
        }

        private void visit(int place, List<Integer> among, TreeSet<Integer> seen) {
            if (seen.add(place)) {
                for (int i : among) {
                    if (roads.get(i).at(place)) {
                        visit(roads.get(i).other(place), among, seen);
                    }
                }
            }
        }

        boolean safe(One o) {
            return reachFrom(o.place, left(o)).contains(o.home);
        }

        void go(One o, int road) {
            o.place = roads.get(road).other(o.place);
            o.been.add(o.place);
            o.when.put(road, year);
            o.gone++;
        }

        int draw(int below) {
            seed = (int) (seed * 1103515245L + 12345L);
            return (int) ((seed & 0xffffffffL) / 65536 % below);
        }
    }

    static final class Row {
        int sort;
        long[] e;
    }

    static class Rule {
        int kind;
        int a;

        int best(World w, List<Integer> among, int sign) {
            int best = -1;
            for (int i : among) {
                if (best < 0 || sign * w.roads.get(i).miles < sign * w.roads.get(best).miles) {
                    best = i;
                }
            }
            return best;
        }

        int says(World w, int one, int soFar) {
            return -1;
        }
    }

    static class Near extends Rule {
        int says(World w, int one, int soFar) {
            return best(w, w.here(w.people.get(one)), 1);
        }
    }

    static class Keep extends Near {
        int says(World w, int one, int soFar) {
            List<Integer> safe = new ArrayList<>();
            for (int i : w.here(w.people.get(one))) {
                World v = w.copy();
                v.go(v.people.get(one), i);
                if (v.safe(v.people.get(one))) {
                    safe.add(i);
                }
            }
            return safe.isEmpty() ? super.says(w, one, soFar) : best(w, safe, 1);
        }
    }

    static class New extends Near {
        int says(World w, int one, int soFar) {
            One o = w.people.get(one);
            List<Integer> fresh = w.here(o);
            fresh.removeIf(i -> o.been.contains(w.roads.get(i).other(o.place)));
            return fresh.isEmpty() ? super.says(w, one, soFar) : best(w, fresh, 1);
        }
    }

    static class Far extends Rule {
        int says(World w, int one, int soFar) {
            return best(w, w.here(w.people.get(one)), -1);
        }
    }

    static class Home extends Keep {
        int says(World w, int one, int soFar) {
            One o = w.people.get(one);
            return o.place == o.home && soFar >= a ? -1 : super.says(w, one, soFar);
        }
    }

    static class Low extends Rule {
        int says(World w, int one, int soFar) {
            List<Integer> here = w.here(w.people.get(one));
            return here.isEmpty() ? -1 : here.get(0);
        }
    }

    World w = new World();
    World kept;
    Object[] shelves = new Object[8];
    StringBuilder tape = new StringBuilder();
    int[] refusals = new int[5];

    int refuse(int code) {
        refusals[-2 - code]++;
        return code;
    }

    static boolean in(long v, long low, long high) {
        return low <= v && v <= high;
    }

    boolean isOne(int one) {
        return in(one, 0, w.people.size() - 1);
    }

    boolean isRoad(int road) {
        return in(road, 0, w.roads.size() - 1);
    }

    static int bits(Iterable<Integer> set) {
        int b = 0;
        for (int i : set) {
            b |= 1 << i;
        }
        return b;
    }

    One who(int one) {
        return w.people.get(one);
    }

    // ---- shelves

    int row(int s, int sort, int n) {
        if (!in(s, 0, 7) || !in(sort, 0, 4) || !in(n, 0, 40)) {
            return refuse(BAD);
        }
        Row r = new Row();
        r.sort = sort;
        r.e = new long[n];
        shelves[s] = r;
        return 1;
    }

    int set(int s, int i, long v) {
        if (!in(s, 0, 7)) {
            return refuse(BAD);
        }
        if (shelves[s] instanceof Rule) {
            return refuse(OTHER);
        }
        if (shelves[s] == null) {
            return refuse(NOTHING);
        }
        Row r = (Row) shelves[s];
        if (!in(i, 0, r.e.length - 1)) {
            return refuse(BAD);
        }
        int shift = new int[] {56, 48, 32, 0, 0}[r.sort];
        r.e[i] = r.sort == 4 ? v == 0 ? 0 : 1 : v << shift >> shift;
        return 1;
    }

    int copy(int p, int q, int i, int j, int n) {
        if (!in(p, 0, 7) || !in(q, 0, 7)) {
            return refuse(BAD);
        }
        Object a = shelves[p];
        Object b = shelves[q];
        if (a instanceof Rule || b instanceof Rule || a != null && b != null && ((Row) a).sort != ((Row) b).sort) {
            return refuse(OTHER);
        }
        if (a == null || b == null) {
            return refuse(NOTHING);
        }
        long[] from = ((Row) a).e.clone();
        long[] to = ((Row) b).e;
        if (i < 0 || j < 0 || n < 0 || (long) i + n > from.length || (long) j + n > to.length) {
            return refuse(BAD);
        }
        for (int k = 0; k < n; k++) {
            to[j + k] = from[i + k];
        }
        return n;
    }

    long element(int s, int i) {
        return in(s, 0, 7) && shelves[s] instanceof Row && in(i, 0, ((Row) shelves[s]).e.length - 1) ? ((Row) shelves[s]).e[i] : 0;
    }

    int holds(int s) {
        if (!in(s, 0, 7) || shelves[s] == null) {
            return -1;
        }
        return shelves[s] instanceof Row ? ((Row) shelves[s]).sort : 10 + ((Rule) shelves[s]).kind;
    }

    int rule(int s, int kind, int a) {
        if (!in(s, 0, 7) || !in(kind, 1, 6) || !in(a, 0, 99)) {
            return refuse(BAD);
        }
        Rule r = kind == 1 ? new Near() : kind == 2 ? new Keep() : kind == 3 ? new New() : kind == 4 ? new Far()
            : kind == 5 ? new Home() : new Low();
        r.kind = kind;
        r.a = a;
        shelves[s] = r;
        return 1;
    }

    int says(int s, int kind) {
        if (!in(s, 0, 7) || !in(kind, 0, 6)) {
            return refuse(BAD);
        }
        Class<?>[] kinds = {Rule.class, Near.class, Keep.class, New.class, Far.class, Home.class, Low.class};
        Object o = shelves[s];
        if (o != null && !kinds[kind].isInstance(o)) {
            return refuse(OTHER);
        }
        if (o == null) {
            return refuse(NOTHING);
        }
        if (kind == 0) {
            return ((Rule) o).a;
        }
        return w.people.isEmpty() ? refuse(STUCK) : ((Rule) o).says(w, 0, 0);
    }

    // ---- the land

    int road(int from, int to, int miles, boolean round) {
        if (!in(from, 0, 7) || !in(to, 0, 7) || from == to || !in(miles, 1, 60)) {
            return refuse(BAD);
        }
        if (w.roads.size() == 16) {
            return refuse(FULL);
        }
        w.build(from, to, miles, round);
        return w.roads.size() - 1;
    }

    int one(int home) {
        if (!in(home, 0, 7)) {
            return refuse(BAD);
        }
        if (w.people.size() == 6) {
            return refuse(FULL);
        }
        w.settle(home);
        return w.people.size() - 1;
    }

    int shut(int road, boolean is) {
        if (!isRoad(road)) {
            return refuse(BAD);
        }
        boolean was = w.roads.get(road).shut;
        w.roads.get(road).shut = is;
        return was == is ? 0 : 1;
    }

    int anew(int v) {
        if (!in(v, 0, 99)) {
            return refuse(BAD);
        }
        int was = w.anew;
        w.anew = v;
        return was;
    }

    int feed(int v, int n) {
        if (!in(n, 1, 4)) {
            return refuse(BAD);
        }
        if (tape.length() + n > 250) {
            return refuse(FULL);
        }
        String all = "" + (char) (v >>> 24) + (char) (v >>> 16 & 255) + (char) (v >>> 8 & 255) + (char) (v & 255);
        tape.append(all.substring(4 - n));
        return tape.length();
    }

    int wipe() {
        int size = tape.length();
        tape.setLength(0);
        return size;
    }

    private static final class Fault extends Exception {
        private static final long serialVersionUID = 1L;
        final int place;

        Fault(int place) {
            this.place = place;
        }
    }

    /** The tokens of a text; the one that stands behind the last is empty. */
    private static final class Tokens {
        final List<String> texts = new ArrayList<>();
        final List<Integer> places = new ArrayList<>();
        int at;

        Tokens(String text) {
            Matcher m = Pattern.compile("[a-z]+|[0-9]+|[^ ]", Pattern.DOTALL).matcher(text);
            while (m.find()) {
                texts.add(m.group());
                places.add(m.start());
            }
            texts.add("");
            places.add(text.length());
        }

        String text() {
            return texts.get(at);
        }

        Fault fault() {
            return new Fault(places.get(at));
        }

        int number(int low, int high) throws Fault {
            if (!text().matches("[0-9]{1,2}") || !in(Integer.parseInt(text()), low, high)) {
                throw fault();
            }
            return Integer.parseInt(texts.get(at++));
        }

        void word(String word) throws Fault {
            if (!text().equals(word)) {
                throw fault();
            }
            at++;
        }
    }

    int land() {
        Tokens t = new Tokens(tape.toString());
        tape.setLength(0);
        World v = w.copy();
        try {
            int count = 1;
            statement(t, v);
            while (t.text().equals(";")) {
                t.at++;
                statement(t, v);
                count++;
            }
            t.word("");
            w = v;
            return count;
        } catch (Fault f) {
            refuse(BAD);
            return -20 - f.place;
        }
    }

    private static void statement(Tokens t, World v) throws Fault {
        String word = t.text();
        if (word.equals("road") && v.roads.size() < 16) {
            t.at++;
            int a = t.number(0, 7);
            if (t.text().matches("0?" + a)) {
                throw t.fault();
            }
            int b = t.number(0, 7);
            t.word("miles");
            int miles = t.number(1, 60);
            boolean round = t.text().equals("round");
            t.at += round ? 1 : 0;
            v.build(a, b, miles, round);
        } else if (word.equals("one") && v.people.size() < 6) {
            t.at++;
            v.settle(t.number(0, 7));
        } else if (word.equals("gone")) {
            t.at++;
            One o = v.people.isEmpty() ? null : v.people.get(0);
            int p = t.number(0, v.people.size() - 1);
            o = v.people.get(p);
            int r = t.number(0, v.roads.size() - 1);
            o.when.put(r, v.year);
            o.gone++;
        } else if (word.equals("at")) {
            t.at++;
            One o = v.people.get(t.number(0, v.people.size() - 1));
            o.place = t.number(0, 7);
            o.been.add(o.place);
        } else if (word.equals("anew")) {
            t.at++;
            v.anew = t.number(0, 99);
        } else if (word.equals("shut")) {
            t.at++;
            v.roads.get(t.number(0, v.roads.size() - 1)).shut = true;
        } else {
            throw t.fault();
        }
    }

    int roadOf(int road, int what) {
        if (!isRoad(road) || !in(what, 0, 4)) {
            return refuse(BAD);
        }
        Road r = w.roads.get(road);
        return new int[] {r.a, r.b, r.miles, r.shut ? 1 : 0, r.round ? 1 : 0}[what];
    }

    int oneOf(int one, int what) {
        if (!isOne(one) || !in(what, 0, 3)) {
            return refuse(BAD);
        }
        One o = who(one);
        return new int[] {o.home, o.place, bits(o.been), o.gone}[what];
    }

    int when(int one, int road) {
        if (!isOne(one) || !isRoad(road)) {
            return refuse(BAD);
        }
        return who(one).when.getOrDefault(road, -1);
    }

    int left(int one) {
        return isOne(one) ? bits(w.left(who(one))) : refuse(BAD);
    }

    int here(int one) {
        return isOne(one) ? bits(w.here(who(one))) : refuse(BAD);
    }

    int reach(int one) {
        return isOne(one) ? bits(w.reachFrom(who(one).place, w.left(who(one)))) : refuse(BAD);
    }

    int safe(int one) {
        return isOne(one) ? w.safe(who(one)) ? 1 : 0 : refuse(BAD);
    }

    // ---- going

    int go(int one, int road) {
        if (!isOne(one) || !isRoad(road)) {
            return refuse(BAD);
        }
        if (!w.here(who(one)).contains(road)) {
            return refuse(STUCK);
        }
        w.go(who(one), road);
        return who(one).place;
    }

    int year() {
        return ++w.year;
    }

    int ruleTrouble(int s) {
        return shelves[s] instanceof Row ? OTHER : shelves[s] == null ? NOTHING : 0;
    }

    int rowTrouble(int s, int n) {
        return shelves[s] instanceof Rule ? OTHER : shelves[s] == null ? NOTHING : ((Row) shelves[s]).e.length < n ? BAD : 0;
    }

    int next(int s, int one) {
        if (!in(s, 0, 7) || !isOne(one)) {
            return refuse(BAD);
        }
        return ruleTrouble(s) != 0 ? refuse(ruleTrouble(s)) : ((Rule) shelves[s]).says(w, one, 0);
    }

    /** The roads gone along, which are gone along in the world that is given. */
    static List<Integer> go(World v, Rule rule, int one, int n) {
        List<Integer> gone = new ArrayList<>();
        while (gone.size() < n) {
            int road = rule.says(v, one, gone.size());
            if (road < 0) {
                break;
            }
            v.go(v.people.get(one), road);
            gone.add(road);
        }
        return gone;
    }

    int miles(List<Integer> list) {
        int sum = 0;
        for (int i : list) {
            sum += w.roads.get(i).miles;
        }
        return sum;
    }

    int run(int s, int one, int n, int what) {
        if (!in(s, 0, 7) || !isOne(one) || !in(n, 0, 60) || !in(what, 0, 4)) {
            return refuse(BAD);
        }
        if (ruleTrouble(s) != 0) {
            return refuse(ruleTrouble(s));
        }
        World v = w.copy();
        List<Integer> gone = go(v, (Rule) shelves[s], one, n);
        One o = v.people.get(one);
        return new int[] {gone.size(), miles(gone), o.place, bits(o.been), v.safe(o) ? 1 : 0}[what];
    }

    int head(int one) {
        if (!isOne(one)) {
            return refuse(BAD);
        }
        int best = -1;
        int most = -1;
        for (int s = 0; s < 8; s++) {
            if (shelves[s] instanceof Rule) {
                int gone = go(w.copy(), (Rule) shelves[s], one, 60).size();
                if (gone > most) {
                    most = gone;
                    best = s;
                }
            }
        }
        return best < 0 ? refuse(STUCK) : best;
    }

    int lives(int s, int one, int n) {
        if (!in(s, 0, 7) || !isOne(one) || !in(n, 0, 60)) {
            return refuse(BAD);
        }
        return ruleTrouble(s) != 0 ? refuse(ruleTrouble(s)) : go(w, (Rule) shelves[s], one, n).size();
    }

    int judge(int one, int s, int n) {
        if (!isOne(one) || !in(s, 0, 7) || !in(n, 0, 20)) {
            return refuse(BAD);
        }
        return rowTrouble(s, n) != 0 ? refuse(rowTrouble(s, n)) : told(w.copy(), one, s, n, new TreeSet<>(), new ArrayList<>());
    }

    private int told(World v, int one, int s, int n, TreeSet<Integer> places, List<Integer> gone) {
        One o = v.people.get(one);
        places.add(o.place);
        for (int i = 0; i < n; i++) {
            long e = ((Row) shelves[s]).e[i];
            if (!in(e, 0, v.roads.size() - 1) || !v.here(o).contains((int) e)) {
                return i;
            }
            v.go(o, (int) e);
            gone.add((int) e);
            places.add(o.place);
        }
        return -1;
    }

    int told(int one, int s, int n, int what) {
        if (!isOne(one) || !in(s, 0, 7) || !in(n, 0, 20) || !in(what, 0, 2)) {
            return refuse(BAD);
        }
        if (rowTrouble(s, n) != 0) {
            return refuse(rowTrouble(s, n));
        }
        World v = w.copy();
        TreeSet<Integer> places = new TreeSet<>();
        List<Integer> gone = new ArrayList<>();
        if (told(v, one, s, n, places, gone) >= 0) {
            return refuse(STUCK);
        }
        return new int[] {v.people.get(one).place, miles(gone), bits(places)}[what];
    }

    // ---- what can be

    /** Whether trying out every life of one is no more work than a test has time for. */
    boolean canAsk(int one, int most) {
        return !isOne(one) || w.such(who(one)).size() <= most;
    }

    int law(int one, int what) {
        if (!isOne(one) || !in(what, 0, 3)) {
            return refuse(BAD);
        }
        List<Integer> such = w.such(who(one));
        int odd = 0;
        List<TreeSet<Integer>> parts = new ArrayList<>();
        for (int p = 0; p < 8; p++) {
            int ends = 0;
            for (int i : such) {
                ends += w.roads.get(i).at(p) ? 1 : 0;
            }
            odd |= ends % 2 << p;
            TreeSet<Integer> part = w.reachFrom(p, such);
            if (ends > 0 && !parts.contains(part)) {
                parts.add(part);
            }
        }
        return new int[] {odd, parts.size(), such.size(), miles(such)}[what];
    }

    /** The first life, by numbers, along all the roads left over, to a goal (-1: anywhere); null: none. */
    private List<Integer> trail(int place, List<Integer> rest, int goal) {
        if (rest.isEmpty()) {
            return goal < 0 || goal == place ? new ArrayList<>() : null;
        }
        for (int i : rest) {
            if (w.roads.get(i).at(place)) {
                List<Integer> others = new ArrayList<>(rest);
                others.remove((Integer) i);
                List<Integer> found = trail(w.roads.get(i).other(place), others, goal);
                if (found != null) {
                    found.add(0, i);
                    return found;
                }
            }
        }
        return null;
    }

    int all(int one) {
        if (!isOne(one)) {
            return refuse(BAD);
        }
        List<Integer> such = w.such(who(one));
        int place = who(one).place;
        return trail(place, such, place) != null ? 2 : trail(place, such, -1) != null ? 1 : 0;
    }

    int way(int one, int i) {
        if (!isOne(one) || !in(i, 0, w.such(who(one)).size() - 1)) {
            return refuse(BAD);
        }
        List<Integer> such = w.such(who(one));
        int place = who(one).place;
        List<Integer> found = trail(place, such, place);
        if (found == null) {
            found = trail(place, such, -1);
        }
        return found == null ? refuse(STUCK) : found.get(i);
    }

    int lacks(int one) {
        if (!isOne(one)) {
            return refuse(BAD);
        }
        World v = new World();
        for (int i : w.such(who(one))) {
            Road r = w.roads.get(i);
            v.build(r.a, r.b, 1, false);
        }
        for (int k = 0; k < 5; k++) {
            if (rounds(v, k, 0)) {
                return k;
            }
        }
        return -99;
    }

    /** Whether k more roads, none of them before a pair of places, make one round of all. */
    private static boolean rounds(World v, int k, int pair) {
        if (k == 0) {
            return isRound(v);
        }
        for (int p = pair; p < 64; p++) {
            if (p / 8 < p % 8) {
                v.build(p / 8, p % 8, 1, false);
                boolean found = rounds(v, k - 1, p);
                v.roads.remove(v.roads.size() - 1);
                if (found) {
                    return true;
                }
            }
        }
        return false;
    }

    private static boolean isRound(World v) {
        int[] ends = new int[8];
        List<Integer> all = new ArrayList<>();
        for (Road r : v.roads) {
            ends[r.a]++;
            ends[r.b]++;
            all.add(all.size());
        }
        if (v.roads.isEmpty()) {
            return true;
        }
        TreeSet<Integer> part = v.reachFrom(v.roads.get(0).a, all);
        for (int p = 0; p < 8; p++) {
            if (ends[p] % 2 != 0 || ends[p] > 0 && !part.contains(p)) {
                return false;
            }
        }
        return true;
    }

    int longest(int one, int what) {
        if (!isOne(one) || !in(what, 0, 2)) {
            return refuse(BAD);
        }
        List<Integer> such = w.such(who(one));
        return such.size() > 12 ? refuse(STUCK) : longest(who(one).place, such, 1 << who(one).place, 0, 0, what);
    }

    private int longest(int place, List<Integer> rest, int places, int roads, int miles, int what) {
        int most = what == 0 ? roads : what == 1 ? miles : Integer.bitCount(places);
        for (int i : rest) {
            Road r = w.roads.get(i);
            if (r.at(place)) {
                List<Integer> others = new ArrayList<>(rest);
                others.remove((Integer) i);
                int to = r.other(place);
                most = Math.max(most, longest(to, others, places | 1 << to, roads + 1, miles + r.miles, what));
            }
        }
        return most;
    }

    int errands(int one, int from, int to) {
        if (!isOne(one) || !in(from, 0, 7) || !in(to, 0, 7) || from == to) {
            return refuse(BAD);
        }
        List<Integer> ways = new ArrayList<>();
        ways(from, to, w.such(who(one)), 1 << from, 0, ways);
        return packed(ways, 0, 0);
    }

    /** Every way without a place twice, as the bits of its roads. */
    private void ways(int place, int to, List<Integer> among, int seen, int used, List<Integer> found) {
        if (place == to) {
            found.add(used);
            return;
        }
        for (int i : among) {
            Road r = w.roads.get(i);
            if (r.at(place) && (seen >> r.other(place) & 1) == 0) {
                ways(r.other(place), to, among, seen | 1 << r.other(place), used | 1 << i, found);
            }
        }
    }

    private static int packed(List<Integer> ways, int from, int used) {
        int most = 0;
        for (int i = from; i < ways.size(); i++) {
            if ((ways.get(i) & used) == 0) {
                most = Math.max(most, 1 + packed(ways, i + 1, used | ways.get(i)));
            }
        }
        return most;
    }

    int cut(int one, int from, int to) {
        if (!isOne(one) || !in(from, 0, 7) || !in(to, 0, 7) || from == to) {
            return refuse(BAD);
        }
        int errands = errands(one, from, to);
        List<Integer> sets = new ArrayList<>();
        for (int set = 0; set < 256; set++) {
            int leave = 0;
            for (int i : w.such(who(one))) {
                leave += (set >> w.roads.get(i).a & 1) != (set >> w.roads.get(i).b & 1) ? 1 : 0;
            }
            if ((set >> from & 1) == 1 && (set >> to & 1) == 0 && leave == errands) {
                sets.add(set);
            }
        }
        for (int least : sets) {
            boolean inAll = true;
            for (int set : sets) {
                inAll &= (least & set) == least;
            }
            if (inAll) {
                return least;
            }
        }
        return -99;
    }

    int meets(int one, int s, int n) {
        if (!isOne(one) || !in(s, 0, 7) || !in(n, 0, 8)) {
            return refuse(BAD);
        }
        if (rowTrouble(s, n) != 0) {
            return refuse(rowTrouble(s, n));
        }
        List<Integer> such = w.such(who(one));
        return such.size() > 10 ? refuse(STUCK) : meets(who(one).place, such, ((Row) shelves[s]).e, n, 0);
    }

    private int meets(int place, List<Integer> rest, long[] wants, int n, int met) {
        if (met < n && wants[met] == place) {
            return meets(place, rest, wants, n, met + 1);
        }
        int most = met;
        for (int i : rest) {
            if (w.roads.get(i).at(place)) {
                List<Integer> others = new ArrayList<>(rest);
                others.remove((Integer) i);
                most = Math.max(most, meets(w.roads.get(i).other(place), others, wants, n, met));
            }
        }
        return most;
    }

    /** The fewest miles; -1: not in reach. */
    private int nearest(One o, int to) {
        List<Integer> ways = new ArrayList<>();
        ways(o.place, to, w.left(o), 1 << o.place, 0, ways);
        int best = -1;
        for (int way : ways) {
            int miles = 0;
            for (int i = 0; i < w.roads.size(); i++) {
                miles += (way >> i & 1) * w.roads.get(i).miles;
            }
            best = best < 0 ? miles : Math.min(best, miles);
        }
        return best;
    }

    int near(int one, int place) {
        if (!isOne(one) || !in(place, 0, 7)) {
            return refuse(BAD);
        }
        int found = nearest(who(one), place);
        return found < 0 ? refuse(STUCK) : found;
    }

    int together(int one, int other, int what) {
        if (!isOne(one) || !isOne(other) || one == other || !in(what, 0, 2)) {
            return refuse(BAD);
        }
        int places = 0;
        int sum = Integer.MAX_VALUE;
        int best = -1;
        for (int p = 7; p >= 0; p--) {
            int a = nearest(who(one), p);
            int b = nearest(who(other), p);
            if (a >= 0 && b >= 0) {
                places |= 1 << p;
                if (a + b <= sum) {
                    sum = a + b;
                    best = p;
                }
            }
        }
        if (what != 0 && best < 0) {
            return refuse(STUCK);
        }
        return new int[] {places, sum, best}[what];
    }

    int frees(int one) {
        if (!isOne(one)) {
            return refuse(BAD);
        }
        int found = 0;
        for (int p = 0; p < 8; p++) {
            if (p != who(one).place && w.reachFrom(p, w.left(who(one))).contains(who(one).home)) {
                found |= 1 << p;
            }
        }
        return found;
    }

    int send(int one, int road) {
        if (!isOne(one) || !isRoad(road)) {
            return refuse(BAD);
        }
        for (int o = 0; o < w.people.size(); o++) {
            if (o != one && w.here(who(o)).contains(road)) {
                return o;
            }
        }
        return -1;
    }

    int fast(boolean safe) {
        int found = 0;
        for (int o = 0; o < w.people.size(); o++) {
            if (safe ? !w.safe(who(o)) : w.here(who(o)).isEmpty()) {
                found |= 1 << o;
            }
        }
        return found;
    }

    int wander(int one, int n) {
        if (!isOne(one) || !in(n, 1, 60)) {
            return refuse(BAD);
        }
        int gone = 0;
        while (gone < n && !w.here(who(one)).isEmpty()) {
            List<Integer> here = w.here(who(one));
            w.go(who(one), here.get(w.draw(here.size())));
            gone++;
        }
        return gone;
    }

    int seed(int v) {
        int was = w.seed;
        w.seed = v;
        return was;
    }

    int image() {
        kept = w.copy();
        return 1;
    }

    int back() {
        if (kept == null) {
            return refuse(STUCK);
        }
        w = kept.copy();
        return 1;
    }

    int status(int what) {
        int gone = 0;
        for (One o : w.people) {
            gone += o.gone;
        }
        int filled = 0;
        for (Object o : shelves) {
            filled += o == null ? 0 : 1;
        }
        int shut = 0;
        for (Road r : w.roads) {
            shut += r.shut ? 1 : 0;
        }
        switch (what) {
            case 0: return w.roads.size();
            case 1: return w.people.size();
            case 2: return w.year;
            case 3: return w.anew;
            case 4: return gone;
            case 5: return tape.length();
            case 6: return w.seed;
            case 7: return filled;
            case 8: return shut;
            default: return in(what, 12, 16) ? refusals[what - 12] : -1;
        }
    }
}
