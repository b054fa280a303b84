/** Promises 30 to 34: crews, strikes, and days that works lose. */
public final class CrewsTest {
    public static void main(String[] args) {
        promise30AddCrew();
        promise31Send();
        promise32CanWork();
        promise32CanWorkNoisy();
        promise32CanWorkHot();
        promise32CrewsTogether();
        promise33Strike();
        promise34LostDays();
        promise34LostDaysIsTheFirst();
        promise34LostDaysOfTwoWorks();
        Due.end("CrewsTest");
    }

    private static void promise30AddCrew() {
        TwofrontArcade x = new TwofrontArcade();
        Due.fails("addCrew('x')", x, Due.BAD, () -> x.addCrew('x'));
        Due.fails("addCrew('D')", x, Due.BAD, () -> x.addCrew('D'));
        Due.fails("addCrew of a far sign", x, Due.BAD, () -> x.addCrew((char) 0xff64));
        Due.is("addCrew('d')", x.addCrew('d'), 0);
        Due.is("addCrew('n')", x.addCrew('n'), 1);
        Due.is("addCrew('h')", x.addCrew('h'), 2);
        Due.is("addCrew('d') again", x.addCrew('d'), 3);
        Due.fails("addCrew('d'), 4 crews", x, Due.FULL, () -> x.addCrew('d'));
        Due.fails("addCrew('x'), 4 crews", x, Due.BAD, () -> x.addCrew('x'));
    }

    private static void promise31Send() {
        TwofrontArcade x = Streets.of(2, 12);
        x.addCrew('d');
        Due.fails("send(1, 0)", x, Due.NO_SUCH, () -> x.send(1, 0));
        Due.fails("send(-1, 0)", x, Due.NO_SUCH, () -> x.send(-1, 0));
        Due.fails("send(0, 2)", x, Due.NO_SUCH, () -> x.send(0, 2));
        Due.fails("send(0, -2)", x, Due.NO_SUCH, () -> x.send(0, -2));
        Due.fails("send(1, -1)", x, Due.NO_SUCH, () -> x.send(1, -1));
        Due.is("send(0, -1) from nowhere", x.send(0, -1), -1);
        Due.is("send(0, 1) from nowhere", x.send(0, 1), -1);
        Due.is("send(0, 0)", x.send(0, 0), 1);
        Due.is("send(0, 0) again", x.send(0, 0), 0);
        Due.is("send(0, -1)", x.send(0, -1), 0);
        Due.is("send(0, 1) from nowhere again", x.send(0, 1), -1);
    }

    private static void promise32CanWork() {
        TwofrontArcade x = Streets.of(3, 12);
        x.plan(0, 1);
        x.notice(0, 7);
        x.addCrew('d');
        Due.fails("canWork(1)", x, Due.NO_SUCH, () -> x.canWork(1));
        Due.fails("canWork(-1)", x, Due.NO_SUCH, () -> x.canWork(-1));
        Due.is("canWork(0), nowhere", x.canWork(0), false);
        x.send(0, 0);
        Due.is("canWork(0), planned", x.canWork(0), false);
        x.pass(7);
        Due.is("left(0), planned", x.left(0), 1);
        x.begin(0);
        Due.is("canWork(0), on", x.canWork(0), true);
        x.strike(1);
        Due.is("canWork(0), in a strike", x.canWork(0), false);
        x.pass(1);
        Due.is("canWork(0), behind a strike", x.canWork(0), true);
        x.send(0, 1);
        Due.is("canWork(0), at a unit without a work", x.canWork(0), false);
        x.send(0, 0);
        x.pass(1);
        Due.is("canWork(0), done", x.canWork(0), false);
    }

    private static void promise32CanWorkNoisy() {
        TwofrontArcade x = Streets.of(4, 12);
        x.addWall(0, 1);
        // quiet on the weekdays 1 and 6; the other one, which has no wall with the work, on all days
        x.addShop(0, 1, 0, false, 66, 60);
        x.addShop(2, 1, 0, false, 127, 60);
        Streets.beginAt(x, 40, 1);
        x.addCrew('n');
        x.addCrew('d');
        x.addCrew('h');
        x.send(0, 1);
        Due.is("canWork(0) on the weekday 0", x.canWork(0), true);
        x.pass(1);
        Due.is("left(1)", x.left(1), 39);
        Due.is("canWork(0) on the weekday 1", x.canWork(0), false);
        x.send(1, 1);
        x.send(2, 1);
        Due.is("canWork(1), a dusty one on a quiet day", x.canWork(1), true);
        Due.is("canWork(2), a hot one on a quiet day", x.canWork(2), true);
        x.send(1, -1);
        x.send(2, -1);
        x.pass(1);
        Due.is("left(1), a quiet day", x.left(1), 39);
        Due.is("lostDays(1, 'q')", x.lostDays(1, 'q'), 1);
        x.pass(4);
        Due.is("left(1), four days more", x.left(1), 35);
        Due.is("canWork(0) on the weekday 6", x.canWork(0), false);
        x.toStall(0);
        Due.is("canWork(0), the shop on a stall", x.canWork(0), true);
        x.move(0, 0);
        Due.is("canWork(0), the shop coming back", x.canWork(0), false);
        x.store(0);
        Due.is("canWork(0), the shop shut", x.canWork(0), true);
        x.move(0, 3);
        Due.is("canWork(0), the shop in a unit without a wall", x.canWork(0), true);
    }

    private static void promise32CanWorkHot() {
        TwofrontArcade x = Streets.withWorksOn(4, 0, 2);
        x.addCrew('h');
        x.addCrew('d');
        x.addCrew('h');
        x.addCrew('h');
        x.send(2, 0);
        x.send(3, 2);
        Due.is("canWork(2), the lower one is nowhere", x.canWork(2), true);
        Due.is("canWork(3), a lower one works", x.canWork(3), false);
        x.send(0, 1);
        Due.is("canWork(2), the lower one has no work", x.canWork(2), true);
        x.send(1, 2);
        Due.is("canWork(2), a lower dusty one works", x.canWork(2), true);
        x.send(0, 2);
        Due.is("canWork(0)", x.canWork(0), true);
        Due.is("canWork(2), a lower one works elsewhere", x.canWork(2), false);
        x.send(1, -1);
        x.pass(1);
        Due.is("left(2), one hot crew of two", x.left(2), 8);
        Due.is("left(0), none", x.left(0), 9);
        Due.is("lostDays(0, 'p')", x.lostDays(0, 'p'), 1);
        Due.is("lostDays(2, 'p')", x.lostDays(2, 'p'), 0);
    }

    private static void promise32CrewsTogether() {
        TwofrontArcade x = Streets.withWorksOn(4, 0);
        x.addCrew('d');
        x.addCrew('d');
        x.addCrew('n');
        x.addCrew('h');
        for (int crew = 0; crew < 4; crew++) {
            x.send(crew, 0);
        }
        x.pass(2);
        Due.is("left(0), four crews for two days of 9", x.left(0), 1);
        x.pass(1);
        Due.is("left(0), four crews for one day", x.left(0), 0);
        Due.is("work(0)", x.work(0), 'd');
    }

    private static void promise33Strike() {
        TwofrontArcade x = Streets.withWorksOn(2, 0);
        x.addCrew('d');
        x.send(0, 0);
        Due.fails("strike(0)", x, Due.BAD, () -> x.strike(0));
        Due.fails("strike(-1)", x, Due.BAD, () -> x.strike(-1));
        Due.fails("strike(31)", x, Due.BAD, () -> x.strike(31));
        Due.is("strike(3)", x.strike(3), 3);
        Due.is("strike(2), within another one", x.strike(2), 3);
        Due.is("strike(4)", x.strike(4), 4);
        x.pass(2);
        Due.is("strike(1) behind two days", x.strike(1), 2);
        x.pass(2);
        Due.is("lostDays(0, 's')", x.lostDays(0, 's'), 4);
        Due.is("left(0)", x.left(0), 9);
        x.pass(1);
        Due.is("left(0) behind the strike", x.left(0), 8);
        Due.is("strike(30)", x.strike(30), 30);
        x.pass(30);
        Due.is("strike(1), anew", x.strike(1), 1);
        Due.is("lostDays(0, 's'), 34", x.lostDays(0, 's'), 34);
    }

    private static void promise34LostDays() {
        TwofrontArcade x = Streets.of(4, 12);
        x.plan(2, 5);
        Due.fails("lostDays(4, 'x')", x, Due.NO_SUCH, () -> x.lostDays(4, 'x'));
        Due.fails("lostDays(-1, 's')", x, Due.NO_SUCH, () -> x.lostDays(-1, 's'));
        Due.fails("lostDays(0, 'x')", x, Due.BAD, () -> x.lostDays(0, 'x'));
        Due.fails("lostDays(0, 'h')", x, Due.BAD, () -> x.lostDays(0, 'h'));
        Due.fails("lostDays of a far sign", x, Due.BAD, () -> x.lostDays(0, (char) 0x173));
        Due.is("lostDays(0, 's'), no work", x.lostDays(0, 's'), 0);
        Streets.beginAt(x, 2, 0);
        Due.is("lostDays(2, 'c'), not begun", x.lostDays(2, 'c'), 0);
        x.pass(3);
        Due.is("lostDays(0, 'c')", x.lostDays(0, 'c'), 3);
        Due.is("lostDays(0, 's')", x.lostDays(0, 's'), 0);
        Due.is("lostDays(0, 'q')", x.lostDays(0, 'q'), 0);
        Due.is("lostDays(0, 'p')", x.lostDays(0, 'p'), 0);
        x.addCrew('n');
        x.send(0, 0);
        x.pass(2);
        x.send(0, -1);
        x.strike(1);
        x.pass(3);
        Due.is("lostDays(0, 'c'), done", x.lostDays(0, 'c'), 3);
        Due.is("lostDays(0, 's'), done", x.lostDays(0, 's'), 0);
    }

    private static void promise34LostDaysOfTwoWorks() {
        TwofrontArcade x = Streets.withWorksOn(10, 0, 9);
        x.addCrew('d');
        x.addCrew('n');
        x.send(0, 0);
        x.send(1, 9);
        x.pass(3);
        for (int unit : new int[] {0, 9}) {
            Due.is("left(" + unit + ")", x.left(unit), 6);
            for (char cause : new char[] {'s', 'c', 'q', 'p'}) {
                Due.is("lostDays(" + unit + ", '" + cause + "')", x.lostDays(unit, cause), 0);
            }
        }
        x.send(1, -1);
        x.pass(1);
        Due.is("lostDays(0, 'c'), a crew there", x.lostDays(0, 'c'), 0);
        Due.is("lostDays(9, 'c'), none there", x.lostDays(9, 'c'), 1);
    }

    private static void promise34LostDaysIsTheFirst() {
        TwofrontArcade x = Streets.of(4, 12);
        x.addWall(0, 1);
        x.addShop(1, 1, 0, false, 127, 9);
        Streets.beginAt(x, 30, 0, 2);
        x.addCrew('h');
        x.addCrew('h');
        x.addCrew('n');
        x.strike(1);
        x.pass(1);
        Due.is("'s' ahead of 'c'", x.lostDays(0, 's'), 1);
        Due.is("'c' in a strike", x.lostDays(0, 'c'), 0);
        x.send(0, 2);
        x.send(1, 0);
        x.send(2, 0);
        x.pass(1);
        Due.is("'q' ahead of 'p'", x.lostDays(0, 'q'), 1);
        Due.is("'p' with a noisy crew", x.lostDays(0, 'p'), 0);
        x.send(2, -1);
        x.pass(1);
        Due.is("'p' with a hot crew alone", x.lostDays(0, 'p'), 1);
        x.send(1, -1);
        x.pass(1);
        Due.is("'c' with crews elsewhere", x.lostDays(0, 'c'), 1);
        x.send(1, 0);
        x.send(2, 0);
        x.strike(1);
        x.pass(1);
        Due.is("'s' ahead of 'q'", x.lostDays(0, 's'), 2);
        x.send(0, -1);
        x.pass(1);
        Due.is("'q', a hot crew having worked", x.lostDays(0, 'q'), 1);
        Due.is("left(0), a hot crew having worked", x.left(0), 29);
        Due.is("lostDays(2, 'c')", x.lostDays(2, 'c'), 1);
    }
}
