import java.util.ArrayList;
import java.util.List;

/**
 * "A method that throws an exception changes nothing": behind each step of a run every call that would be refused then
 * is made, and all answers from there to the end of the run must be those of the run without them.
 */
public final class RefusedCallsTest {
    private static final int[] NUMBERS = {Integer.MIN_VALUE, -2, -1, 0, 1, 2, 3, 4, 5, Integer.MAX_VALUE};
    private static final char[] SIGNS = {'d', 'n', 'h', 's', 'c', 'q', 'p', 'm', 'x'};

    private static int refused = 0;

    public static void main(String[] args) {
        List<Step> run = run();
        for (int steps = 0; steps <= run.size(); steps++) {
            TwofrontArcade plain = behind(run, steps);
            TwofrontArcade tried = behind(run, steps);
            for (Step call : calls(plain.day())) {
                if (isRefused(behind(run, steps), call)) {
                    refused++;
                    Due.is("a refused call behind " + steps + " steps throws", isRefused(tried, call), true);
                }
            }
            compare(plain, tried, "behind " + steps + " steps");
            for (int next = steps; next < run.size(); next++) {
                String name = "step " + next + ", refused calls behind " + steps + " steps";
                Due.is(name, String.valueOf(run.get(next).on(tried)), String.valueOf(run.get(next).on(plain)));
                compare(plain, tried, name);
            }
        }
        Due.is("refused calls were found behind each step", refused > 100 * run.size(), true);
        Due.end("RefusedCallsTest");
    }

    private interface Step {
        Object on(TwofrontArcade x);
    }

    private static void compare(TwofrontArcade plain, TwofrontArcade tried, String name) {
        Due.is("all answers, " + name, Answers.of(tried).equals(Answers.of(plain)), true);
    }

    private static TwofrontArcade behind(List<Step> run, int steps) {
        TwofrontArcade x = new TwofrontArcade();
        for (int i = 0; i < steps; i++) {
            run.get(i).on(x);
        }
        return x;
    }

    private static boolean isRefused(TwofrontArcade x, Step call) {
        try {
            call.on(x);
            return false;
        } catch (RuntimeException e) {
            return true;
        }
    }

    /** Four units and three shops, with works that wait, begin and end, crews, a strike, stalls and stored goods. */
    private static List<Step> run() {
        List<Step> run = new ArrayList<>();
        for (int width : new int[] {6, 4, 8, 5}) {
            run.add(x -> x.addUnit(width));
        }
        run.add(x -> x.addWall(0, 1));
        run.add(x -> x.addWall(1, 3));
        run.add(x -> x.plan(1, 3));
        run.add(x -> x.plan(2, 4));
        run.add(x -> x.plan(3, 2));
        run.add(x -> x.rest(3, 1));
        run.add(x -> x.notice(1, 7));
        run.add(x -> x.notice(3, 8));
        run.add(x -> x.addShop(0, 5, 40, true, 2, 20));
        run.add(x -> x.addShop(2, 3, 50, true, 0, 1));
        run.add(x -> x.setPeople(0, 33));
        run.add(x -> x.pass(7));
        run.add(x -> x.begin(1));
        run.add(x -> x.addCrew('n'));
        run.add(x -> x.send(0, 1));
        run.add(x -> x.pass(1));
        run.add(x -> x.addCrew('d'));
        run.add(x -> x.send(1, 1));
        run.add(x -> x.strike(2));
        run.add(x -> x.toStall(0));
        run.add(x -> x.pass(2));
        run.add(x -> x.find(1, 1));
        run.add(x -> x.addShop(0, 1, 5, false, 127, 60));
        run.add(x -> x.store(2));
        run.add(x -> x.pass(4));
        run.add(x -> x.begin(3));
        run.add(x -> x.move(0, 0));
        run.add(x -> x.notice(2, 30));
        run.add(x -> x.pass(5));
        run.add(x -> x.toStall(1));
        run.add(x -> x.pass(7));
        return run;
    }

    private static List<Step> calls(int day) {
        List<Step> calls = new ArrayList<>();
        for (int one : NUMBERS) {
            calls.add(x -> x.addUnit(one));
            calls.add(x -> x.work(one));
            calls.add(x -> x.left(one));
            calls.add(x -> x.whyNot(one));
            calls.add(x -> x.begin(one));
            calls.add(x -> x.state(one));
            calls.add(x -> x.unitOf(one));
            calls.add(x -> x.homeOf(one));
            calls.add(x -> x.toStall(one));
            calls.add(x -> x.store(one));
            calls.add(x -> x.comes(one));
            calls.add(x -> x.mayBeShut(one));
            calls.add(x -> x.seen(one));
            calls.add(x -> x.known(one));
            calls.add(x -> x.isDusty(one));
            calls.add(x -> x.flow(one));
            calls.add(x -> x.room(one));
            calls.add(x -> x.canWork(one));
            calls.add(x -> x.startIn(one));
            calls.add(x -> x.took(one));
            calls.add(x -> x.rent(one));
            for (char sign : SIGNS) {
                calls.add(x -> x.lostDays(one, sign));
                calls.add(x -> x.lost(one, sign));
            }
            for (int other : NUMBERS) {
                calls.add(x -> x.addWall(one, other));
                calls.add(x -> x.rest(one, other));
                calls.add(x -> x.move(one, other));
                calls.add(x -> x.send(one, other));
                calls.add(x -> x.plan(one, other));
                calls.add(x -> x.find(one, other));
                calls.add(x -> x.setPeople(one, other));
            }
            for (int bound : new int[] {-1, 0, 1, 9, 10, 30, 31, 60, 61, 99, 100, 127, 128, 999, 1000}) {
                calls.add(x -> x.plan(one, bound));
                calls.add(x -> x.find(one, bound));
                calls.add(x -> x.notice(one, bound));
                calls.add(x -> x.notice(one, day + 5 + bound));
                calls.add(x -> x.setPeople(one, bound));
                calls.add(x -> x.addShop(one, bound, 0, true, 0, 0));
                calls.add(x -> x.addShop(one, 1, bound, true, 0, 0));
                calls.add(x -> x.addShop(one, 1, 0, true, bound, 0));
                calls.add(x -> x.addShop(one, 1, 0, true, 0, bound));
            }
        }
        addAlone(calls);
        return calls;
    }

    private static void addAlone(List<Step> calls) {
        for (char sign : SIGNS) {
            calls.add(x -> x.addCrew(sign));
        }
        for (int days = -1; days <= 32; days++) {
            int number = days;
            calls.add(x -> x.pass(number));
            calls.add(x -> x.strike(number));
        }
        calls.add(TwofrontArcade::shortest);
        calls.add(TwofrontArcade::openShare);
        calls.add(TwofrontArcade::meanTaken);
    }
}
