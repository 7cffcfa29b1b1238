import java.util.ArrayList;
import java.util.Collections;
import java.util.List;
import java.util.Random;
import java.util.function.Supplier;
import java.util.function.ToLongFunction;

/** No asking call leaves anything behind for the next: on one object all answer as on objects of their own, in any order. */
public final class AskingTest {
    private static final Check check = new Check();

    public static void main(String[] args) {
        inAnyOrder("a rich one", Edges::rich);
        inAnyOrder("a full one", Edges::full);
        inAnyOrder("a dense one", AskingTest::dense);
        inAnyOrder("an empty one", Edges::empty);
        check.end("AskingTest");
    }

    /** Few PLACES, many ROADS, PEOPLE who have been about, and a RULE of each KIND. */
    private static EachRoadOnce dense() {
        EachRoadOnce x = Check.read("road 0 1 miles 5;road 1 2 miles 4;road 2 0 miles 3;road 2 3 miles 2;road 3 0 miles 1;road 3 1 miles 6 round;"
            + "road 4 3 miles 7;road 4 0 miles 9;road 5 6 miles 1;one 0;one 3;one 4");
        x.year();
        Check.go(x, 0, 0, 1);
        Check.go(x, 2, 7);
        Check.fill(x, 0, 2, 3, 5, 5, 2, 4);
        Check.fill(x, 1, 0, 3, 1, 0, 2);
        for (int kind = 1; kind <= 6; kind++) {
            x.rule(1 + kind, kind, 3);
        }
        return x;
    }

    private static List<ToLongFunction<EachRoadOnce>> questions() {
        List<ToLongFunction<EachRoadOnce>> all = new ArrayList<>();
        for (int i = 0; i < 3; i++) {
            int one = i;
            all.add(x -> x.left(one));
            all.add(x -> x.here(one));
            all.add(x -> x.reach(one));
            all.add(x -> x.safe(one));
            all.add(x -> x.head(one));
            all.add(x -> x.all(one));
            all.add(x -> x.lacks(one));
            all.add(x -> x.frees(one));
            all.add(x -> x.send(one, 2));
            all.add(x -> x.judge(one, 0, 4));
            all.add(x -> x.errands(one, 3, 0));
            all.add(x -> x.cut(one, 0, 4));
            all.add(x -> x.meets(one, 1, 3));
            all.add(x -> x.meets(one, 0, 4));
            for (int w = 0; w <= 3; w++) {
                int what = w;
                all.add(x -> x.law(one, what));
                all.add(x -> x.way(one, what));
                all.add(x -> x.longest(one, what));
                all.add(x -> x.told(one, 1, 1 + what / 2, what));
                all.add(x -> x.together(one, (one + 1) % 3, what));
                all.add(x -> x.near(one, 2 * what));
            }
            for (int s = 2; s <= 7; s++) {
                int shelf = s;
                all.add(x -> x.next(shelf, one));
                all.add(x -> x.run(shelf, one, 9, 1));
                all.add(x -> x.run(shelf, one, 60, shelf % 5));
            }
        }
        all.add(x -> x.fast(true));
        all.add(x -> x.fast(false));
        all.add(x -> x.says(2, 1));
        return all;
    }

    private static void inAnyOrder(String name, Supplier<EachRoadOnce> made) {
        List<ToLongFunction<EachRoadOnce>> questions = questions();
        long[] alone = new long[questions.size()];
        List<Integer> order = new ArrayList<>();
        for (int i = 0; i < alone.length; i++) {
            alone[i] = questions.get(i).applyAsLong(made.get());
            order.add(i);
        }
        for (int turn = 0; turn < 40; turn++) {
            EachRoadOnce x = made.get();
            for (int i : order) {
                check.due(name + ", turn " + turn + ", question " + i, questions.get(i).applyAsLong(x), alone[i]);
            }
            Collections.shuffle(order, new Random(turn));
        }
        isAsItWas(name, made, questions.subList(0, alone.length / 2));
        isAsItWas(name, made, questions.subList(alone.length / 2, alone.length));
    }

    private static void isAsItWas(String name, Supplier<EachRoadOnce> made, List<ToLongFunction<EachRoadOnce>> questions) {
        EachRoadOnce x = made.get();
        for (ToLongFunction<EachRoadOnce> question : questions) {
            question.applyAsLong(x);
        }
        check.holds(name + " is as it was", Check.picture(x).equals(Check.picture(made.get())));
    }
}
