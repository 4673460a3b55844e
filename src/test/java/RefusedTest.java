import java.util.ArrayList;
import java.util.Arrays;
import java.util.List;
import java.util.function.Consumer;
import java.util.function.ToLongFunction;

/**
 * The sentences "doing nothing" and "not as told": of two objects alike one is called wrongly, then
 * both are asked for all that they hold, let days go by, and are asked again.
 */
public final class RefusedTest {
    private static final int FALSE = 0;
    private static final int NONE = -1;

    /** An object that wrong calls are made on, and how it is told. */
    private record Scene(String name, Consumer<TributeFleet> telling) {
    }

    /** A wrong call and its answer. */
    private record Call(String name, ToLongFunction<TributeFleet> making, long answer) {
    }

    private final Checks c = new Checks();

    private RefusedTest() {
    }

    public static void main(String[] args) {
        RefusedTest test = new RefusedTest();
        test.c.sentence("2 to 25: wrong calls on a new object do nothing.", c -> test.callNew());
        test.c.sentence("2 to 25: wrong calls on the way do nothing.", c -> test.callOnTheWay());
        test.c.sentence("4, 7, 8, 9: wrong calls where all is full do nothing.", c -> test.callFull());
        test.c.sentence("14: wrong calls on the last day do nothing.", c -> test.callOnTheLastDay());
        test.c.sentence("10, 11, 15 to 18, 22, 24, 25: asking does nothing.", c -> test.ask());
        test.c.end();
    }

    private void callNew() {
        Scene scene = new Scene("new", x -> { });
        List<Call> calls = wrongEverywhere();
        calls.add(told("give(0, 5)", x -> x.give(0, 5)));
        calls.add(told("leave(0, true)", x -> x.leave(0, true)));
        calls.add(told("due(0, 5)", x -> x.due(0, 5)));
        calls.add(new Call("lose(0, 1)", x -> x.lose(0, 1), NONE));
        calls.add(new Call("commute(0, 1)", x -> x.commute(0, 1), NONE));
        calls.add(new Call("statute(1)", x -> x.statute(1), -2));
        makeAll(scene, calls);
    }

    private void callOnTheWay() {
        Scene scene = new Scene("on the way", RefusedTest::tellSome);
        List<Call> calls = wrongEverywhere();
        calls.add(told("give(2, 5)", x -> x.give(2, 5)));
        calls.add(told("give(0, 101)", x -> x.give(0, 101)));
        calls.add(told("give(0, -1)", x -> x.give(0, -1)));
        calls.add(told("leave(3, true)", x -> x.leave(3, true)));
        calls.add(told("leave(0, false)", x -> x.leave(0, false)));
        calls.add(told("leave(1, true)", x -> x.leave(1, true)));
        calls.add(told("due(0, 401)", x -> x.due(0, 401)));
        calls.add(told("due(0, -1)", x -> x.due(0, -1)));
        calls.add(told("due(3, 5)", x -> x.due(3, 5)));
        calls.add(new Call("lose(0, 1), come", x -> x.lose(0, 1), NONE));
        calls.add(new Call("lose(1, 0)", x -> x.lose(1, 0), NONE));
        calls.add(new Call("lose(1, 81)", x -> x.lose(1, 81), NONE));
        calls.add(new Call("lose(3, 1)", x -> x.lose(3, 1), NONE));
        calls.add(new Call("commute(1, 0)", x -> x.commute(1, 0), NONE));
        calls.add(new Call("commute(1, 61)", x -> x.commute(1, 61), NONE));
        calls.add(new Call("commute(2, 1)", x -> x.commute(2, 1), NONE));
        calls.add(new Call("statute(41)", x -> x.statute(41), -2));
        makeAll(scene, calls);
    }

    private void callFull() {
        Scene scene = new Scene("full", RefusedTest::tellAll);
        List<Call> calls = new ArrayList<>();
        calls.add(new Call("lake(0, 5)", x -> x.lake(0, 5), NONE));
        calls.add(new Call("squadron(0, 1, 0, 0)", x -> x.squadron(0, 1, 0, 0), NONE));
        calls.add(new Call("feed(..)", x -> x.feed(1, 2, 3, 4, 5), NONE));
        calls.add(new Call("statute(8)", x -> x.statute(8), -3));
        calls.add(new Call("statute(0)", x -> x.statute(0), -3));
        calls.add(new Call("statute(400)", x -> x.statute(400), -3));
        calls.add(new Call("statute(401)", x -> x.statute(401), -2));
        calls.add(new Call("statute(-1)", x -> x.statute(-1), -2));
        makeAll(scene, calls);
    }

    private void callOnTheLastDay() {
        Scene scene = new Scene("on the last day", x -> {
            x.squadron(0, 10, 100, 0);
            x.ice(0, 2);
            x.lake(1, 5000);
            x.give(0, 1);
            Days.pass(x, 400);
            x.ice(400, 2);
        });
        makeAll(scene, List.of(new Call("day()", TributeFleet::day, NONE)));
    }

    /** Questions change nothing, whatever they are about. */
    private void ask() {
        Scene scene = new Scene("on the way", RefusedTest::tellSome);
        for (int number : new int[] {-1, 0, 1, 2, 3, 5, 10, 31, 401}) {
            List<ToLongFunction<TributeFleet>> asked = List.of(x -> x.fault(), x -> x.law(number, 0),
                    x -> x.law(0, number), x -> x.told(number, 0), x -> x.told(0, number),
                    x -> x.judge(number, 0), x -> x.judge(0, number), x -> x.reach(number, 0),
                    x -> x.reach(0, number), x -> x.store(number), x -> x.county(number, 0),
                    x -> x.county(0, number), x -> x.least(number, 0, -1),
                    x -> x.least(3, number, 0), x -> x.least(3, 0, number), x -> x.count(number));
            for (int i = 0; i < asked.size(); i++) {
                TributeFleet x = tell(scene);
                asked.get(i).applyAsLong(x);
                look("question " + i + " about " + number, x, tell(scene));
            }
        }
    }

    private static Call told(String name, java.util.function.Predicate<TributeFleet> making) {
        return new Call(name, x -> making.test(x) ? 1 : 0, FALSE);
    }

    /** Calls whose arguments are wrong for every object of three reaches. */
    private static List<Call> wrongEverywhere() {
        List<Call> calls = new ArrayList<>();
        for (int far : new int[] {Integer.MIN_VALUE, -1, 10001, Integer.MAX_VALUE}) {
            String name = "(" + far + ")";
            calls.add(told("water" + name, x -> x.water(far, 5)));
            calls.add(told("water, much" + name, x -> x.water(1, far)));
            calls.add(told("lock" + name, x -> x.lock(far, 5)));
            calls.add(told("lock, boats" + name, x -> x.lock(1, far)));
            calls.add(new Call("lake" + name, x -> x.lake(far, 5), NONE));
            calls.add(new Call("lake, store" + name, x -> x.lake(1, far), NONE));
            calls.add(told("give" + name, x -> x.give(far, 5)));
            calls.add(told("ice" + name, x -> x.ice(far, 1)));
            calls.add(told("ice, reach" + name, x -> x.ice(0, far)));
            calls.add(new Call("squadron" + name, x -> x.squadron(far, 1, 1, 1), NONE));
            calls.add(new Call("squadron, boats" + name, x -> x.squadron(1, far, 1, 1), NONE));
            calls.add(new Call("squadron, bags" + name, x -> x.squadron(1, 1, far, 1), NONE));
            calls.add(new Call("squadron, goods" + name, x -> x.squadron(1, 1, 1, far), NONE));
            calls.add(new Call("statute" + name, x -> x.statute(far), -2));
            calls.add(told("leave" + name, x -> x.leave(far, true)));
            calls.add(new Call("lose" + name, x -> x.lose(far, 1), NONE));
            calls.add(new Call("lose, bags" + name, x -> x.lose(1, far), NONE));
            calls.add(told("allot" + name, x -> x.allot(far, 1)));
            calls.add(told("allot, bags" + name, x -> x.allot(1, far)));
            calls.add(told("rate" + name, x -> x.rate(far)));
            calls.add(new Call("commute" + name, x -> x.commute(far, 1), NONE));
            calls.add(new Call("commute, bags" + name, x -> x.commute(1, far), NONE));
            calls.add(told("due" + name, x -> x.due(far, 5)));
            calls.add(told("due, day" + name, x -> x.due(1, far)));
        }
        addNextToBounds(calls);
        return calls;
    }

    private static void addNextToBounds(List<Call> calls) {
        calls.add(told("water(3, 5)", x -> x.water(3, 5)));
        calls.add(told("water(1, 1001)", x -> x.water(1, 1001)));
        calls.add(told("lock(2, 5)", x -> x.lock(2, 5)));
        calls.add(told("lock(1, 0)", x -> x.lock(1, 0)));
        calls.add(told("lock(1, 61)", x -> x.lock(1, 61)));
        calls.add(new Call("lake(3, 5)", x -> x.lake(3, 5), NONE));
        calls.add(new Call("lake(1, 5001)", x -> x.lake(1, 5001), NONE));
        calls.add(told("ice(401, 0)", x -> x.ice(401, 0)));
        calls.add(told("ice(0, 3)", x -> x.ice(0, 3)));
        calls.add(new Call("squadron(6, 1, 1, 1)", x -> x.squadron(6, 1, 1, 1), NONE));
        calls.add(new Call("squadron(1, 0, 1, 1)", x -> x.squadron(1, 0, 1, 1), NONE));
        calls.add(new Call("squadron(1, 51, 1, 1)", x -> x.squadron(1, 51, 1, 1), NONE));
        calls.add(new Call("squadron(1, 1, 5001, 1)", x -> x.squadron(1, 1, 5001, 1), NONE));
        calls.add(new Call("squadron(1, 1, 1, 2001)", x -> x.squadron(1, 1, 1, 2001), NONE));
        calls.add(told("allot(6, 1)", x -> x.allot(6, 1)));
        calls.add(told("rate(101)", x -> x.rate(101)));
        calls.add(new Call("commute(6, 1)", x -> x.commute(6, 1), NONE));
    }

    /** One squadron has come, one is barred, one has passed; of all else a little. */
    private static void tellSome(TributeFleet x) {
        x.squadron(1, 10, 100, 25);
        x.day();
        x.squadron(1, 21, 100, 5);
        x.squadron(0, 4, 50, 5);
        x.leave(1, true);
        x.leave(2, true);
        x.lose(0, 5);
        x.lose(1, 20);
        x.water(1, 300);
        x.lock(1, 9);
        x.lake(1, 70);
        x.lake(2, 500);
        x.give(0, 30);
        x.give(1, 40);
        x.ice(4, 2);
        x.allot(1, 100);
        x.rate(7);
        x.commute(1, 40);
        x.due(0, 1);
        x.due(1, 3);
        Texts.statute(x, "order boats; days 0 is 1; fine 4;");
        Texts.statute(x, "order bags;");
        x.lock(1, 10);
        x.day();
        Texts.feed(x, "order county; fine 5; loss 9;");
    }

    private static void tellAll(TributeFleet x) {
        for (int i = 0; i < 12; i++) {
            x.squadron(i % 6, 4 + i, 10, 0);
        }
        for (int i = 0; i < 4; i++) {
            x.lake(2, 100 * i);
            x.give(i, 10);
        }
        Texts.statute(x, "order bags;");
        for (int i = 0; i < 10; i++) {
            Texts.statute(x, "fine 5;");
        }
        Texts.feed(x, "fine 6; " + " ".repeat(392));
    }

    private TributeFleet tell(Scene scene) {
        TributeFleet x = new TributeFleet(3);
        scene.telling().accept(x);
        return x;
    }

    private void makeAll(Scene scene, List<Call> calls) {
        for (Call call : calls) {
            TributeFleet x = tell(scene);
            String name = scene.name() + ": " + call.name();
            c.due(name, call.making().applyAsLong(x), call.answer());
            look(name, x, tell(scene));
        }
    }

    private void look(String name, TributeFleet called, TributeFleet twin) {
        c.due(name + ", then all alike", Arrays.equals(sequel(called), sequel(twin)), true);
    }

    /** What an object tells, and tells later: all that it holds shows in it. */
    private static int[] sequel(TributeFleet x) {
        List<Integer> told = new ArrayList<>();
        tellState(x, told);
        told.add(x.rate(8) ? x.commute(1, 1) : 0);
        told.add(x.statute(x.count(4)));
        told.add(x.fault());
        for (int day = 0; day < 2; day++) {
            told.add(x.day());
            for (int i = 0; i < x.count(1); i++) {
                told.add(x.told(i, 3));
            }
        }
        told.add(x.squadron(2, 3, 4, 5));
        told.add(x.lake(0, 9));
        tellFew(x, told);
        return told.stream().mapToInt(number -> number).toArray();
    }

    private static void tellState(TributeFleet x, List<Integer> told) {
        told.add(x.commute(1, 2));
        told.add(x.fault());
        tellFew(x, told);
        int[] whats = {1, 2, 4, 5, 10, 11, 31, 32, 33, 34};
        for (int i = 0; i < Math.min(3, x.count(1)); i++) {
            for (int what : whats) {
                told.add(x.told(i, what));
            }
            told.add(x.judge(i, 3));
        }
        for (int what = 0; what < 12; what++) {
            told.add(x.law(400, what));
        }
    }

    private static void tellFew(TributeFleet x, List<Integer> told) {
        for (int what = 0; what < 7; what++) {
            told.add(x.count(what));
        }
        for (int reach = 0; reach < 3; reach++) {
            for (int what = 0; what < 4; what++) {
                told.add(x.reach(reach, what));
            }
        }
        for (int lake = 0; lake < x.count(2); lake++) {
            told.add(x.store(lake));
        }
        for (int what = 0; what < 5; what++) {
            told.add(x.county(1, what));
        }
        for (int k = -1; k < 3; k++) {
            told.add(x.least(7, 0, k));
        }
    }
}
