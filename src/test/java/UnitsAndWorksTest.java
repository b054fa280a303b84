/** Promises 1 to 11: a new object, units, party walls, works, notices and finds. */
public final class UnitsAndWorksTest {
    public static void main(String[] args) {
        promise1NewObject();
        promise2AddUnit();
        promise3AddWall();
        promise4Plan();
        promise5Rest();
        promise5RestByHoweverMany();
        promise5RestOnTwo();
        promise6Notice();
        promises7And8WorkAndLeft();
        promise9WhyNot();
        promise9WhyNotByWaysOut();
        promise9WhyNotIsTheFirst();
        promise10Begin();
        promise11Find();
        Due.end("UnitsAndWorksTest");
    }

    private static void promise1NewObject() {
        TwofrontArcade x = new TwofrontArcade();
        Due.is("day() of a new object", x.day(), 0);
        Due.is("fund() of a new object", x.fund(), 0);
        Due.is("checksum() of a new object", x.checksum(), 217);
        Due.is("shortest() of a new object", x.shortest(), 0);
        Due.is("areWide() of a new object", x.areWide(), true);
        Due.is("isSound() of a new object", x.isSound(), true);
        Due.fails("room(0) of a new object", x, Due.NO_SUCH, () -> x.room(0));
        Due.fails("state(0) of a new object", x, Due.NO_SUCH, () -> x.state(0));
        Due.fails("canWork(0) of a new object", x, Due.NO_SUCH, () -> x.canWork(0));
        x.addUnit(4);
        Due.is("objects are apart", new TwofrontArcade().checksum(), 217);
    }

    private static void promise2AddUnit() {
        TwofrontArcade x = new TwofrontArcade();
        Due.fails("addUnit(3)", x, Due.BAD, () -> x.addUnit(3));
        Due.fails("addUnit(13)", x, Due.BAD, () -> x.addUnit(13));
        Due.fails("addUnit(-5)", x, Due.BAD, () -> x.addUnit(-5));
        for (int i = 0; i < 10; i++) {
            Due.is("addUnit no. " + i, x.addUnit(i == 0 ? 4 : i == 1 ? 12 : 7), i);
        }
        Due.is("room(0)", x.room(0), 100);
        Due.is("room(1)", x.room(1), 300);
        Due.fails("addUnit(4) above 10", x, Due.FULL, () -> x.addUnit(4));
        Due.fails("addUnit(13) above 10", x, Due.BAD, () -> x.addUnit(13));
        x.addShop(9, 1, 0, false, 0, 0);
        Due.fails("addUnit(4) above 10 with a shop", x, Due.MAY_NOT, () -> x.addUnit(4));
        Due.fails("addUnit(3) above 10 with a shop", x, Due.BAD, () -> x.addUnit(3));
    }

    private static void promise3AddWall() {
        TwofrontArcade x = Streets.of(4, 8);
        Due.is("addWall(0, 1)", x.addWall(0, 1), 1);
        Due.is("addWall(3, 0), of units that are far apart", x.addWall(3, 0), 1);
        Due.is("addWall(0, 2)", x.addWall(0, 2), 3);
        Due.is("addWall(2, 3)", x.addWall(2, 3), 2);
        Due.fails("addWall(1, 0) again", x, Due.MAY_NOT, () -> x.addWall(1, 0));
        Due.fails("addWall(0, 1) again", x, Due.MAY_NOT, () -> x.addWall(0, 1));
        Due.fails("addWall(1, 1)", x, Due.BAD, () -> x.addWall(1, 1));
        Due.fails("addWall(-1, -1)", x, Due.NO_SUCH, () -> x.addWall(-1, -1));
        Due.fails("addWall(0, 4)", x, Due.NO_SUCH, () -> x.addWall(0, 4));
        Due.fails("addWall(4, 0)", x, Due.NO_SUCH, () -> x.addWall(4, 0));

        TwofrontArcade y = Streets.withWorksOn(4, 1);
        Due.fails("addWall(1, 2), on in the first", y, Due.MAY_NOT, () -> y.addWall(1, 2));
        Due.fails("addWall(2, 1), on in the other", y, Due.MAY_NOT, () -> y.addWall(2, 1));
        Due.fails("addWall(1, 1), on", y, Due.BAD, () -> y.addWall(1, 1));
        y.plan(0, 3);
        Due.is("addWall(0, 2), of a planned work", y.addWall(0, 2), 1);
        y.addCrew('n');
        y.send(0, 1);
        y.pass(9);
        Due.is("addWall(1, 2), done", y.addWall(1, 2), 1);
    }

    private static void promise4Plan() {
        TwofrontArcade x = Streets.of(4, 8);
        Due.fails("plan(4, 0)", x, Due.NO_SUCH, () -> x.plan(4, 0));
        Due.fails("plan(-1, 5)", x, Due.NO_SUCH, () -> x.plan(-1, 5));
        Due.fails("plan(0, 0)", x, Due.BAD, () -> x.plan(0, 0));
        Due.fails("plan(0, 61)", x, Due.BAD, () -> x.plan(0, 61));
        Due.is("plan(0, 1)", x.plan(0, 1), 1);
        Due.is("plan(1, 60)", x.plan(1, 60), 2);
        Due.fails("plan(0, 61) again", x, Due.BAD, () -> x.plan(0, 61));
        Due.fails("plan(0, 5) again", x, Due.MAY_NOT, () -> x.plan(0, 5));
        x.addCrew('n');
        x.notice(0, 7);
        x.notice(1, 7);
        x.pass(7);
        x.begin(1);
        Streets.finish(x, 0);
        Due.is("plan(2, 5), of one done, one on", x.plan(2, 5), 2);
        Due.fails("plan(1, 5), on", x, Due.MAY_NOT, () -> x.plan(1, 5));
        Due.fails("plan(0, 5), done", x, Due.MAY_NOT, () -> x.plan(0, 5));
    }

    private static void promise5Rest() {
        TwofrontArcade x = Streets.of(4, 8);
        x.plan(0, 1);
        x.plan(1, 2);
        Due.fails("rest(4, 0)", x, Due.NO_SUCH, () -> x.rest(4, 0));
        Due.fails("rest(2, -1)", x, Due.NO_SUCH, () -> x.rest(2, -1));
        Due.fails("rest(2, 0), no work", x, Due.MAY_NOT, () -> x.rest(2, 0));
        Due.fails("rest(0, 2), no other work", x, Due.MAY_NOT, () -> x.rest(0, 2));
        Due.fails("rest(2, 2), no work", x, Due.MAY_NOT, () -> x.rest(2, 2));
        Due.fails("rest(0, 0)", x, Due.BAD, () -> x.rest(0, 0));
        Due.is("rest(1, 0)", x.rest(1, 0), false);
        Due.is("rest(1, 0) again", x.rest(1, 0), true);
        Due.fails("rest(0, 1)", x, Due.BAD, () -> x.rest(0, 1));
        x.addCrew('n');
        x.notice(0, 7);
        x.notice(1, 7);
        x.pass(7);
        x.begin(0);
        Due.fails("rest(0, 1), on", x, Due.MAY_NOT, () -> x.rest(0, 1));
        x.send(0, 0);
        x.pass(1);
        Due.fails("rest(0, 1), done", x, Due.MAY_NOT, () -> x.rest(0, 1));
        x.plan(3, 4);
        Due.is("rest(3, 0), on one that is done", x.rest(3, 0), false);
        Due.is("rest(3, 0), on one that is done, again", x.rest(3, 0), true);
    }

    private static void promise5RestByHoweverMany() {
        TwofrontArcade x = Streets.of(10, 8);
        for (int unit = 0; unit < 10; unit++) {
            x.plan(unit, 1);
        }
        // a chain in which each rests on the one seven units on, so that no order of numbers helps
        for (int step = 0; step < 9; step++) {
            int from = (3 + step * 7) % 10;
            Due.is("rest(" + from + ", ..)", x.rest(from, (from + 7) % 10), false);
        }
        Due.fails("rest(6, 3), by nine", x, Due.BAD, () -> x.rest(6, 3));
        Due.fails("rest(7, 3), by two", x, Due.BAD, () -> x.rest(7, 3));
        Due.is("rest(3, 7), by two", x.rest(3, 7), true);
        Due.is("rest(7, 9), by six", x.rest(7, 9), true);
        Due.is("rest(3, 6), by nine", x.rest(3, 6), true);
    }

    private static void promise5RestOnTwo() {
        TwofrontArcade x = Streets.of(4, 8);
        for (int unit = 0; unit < 3; unit++) {
            x.plan(unit, 1);
            x.notice(unit, 7);
        }
        Due.is("rest(2, 0)", x.rest(2, 0), false);
        Due.is("rest(2, 1)", x.rest(2, 1), false);
        Due.is("rest(2, 0), of two", x.rest(2, 0), true);
        Due.is("rest(2, 1), of two", x.rest(2, 1), true);
        x.addCrew('n');
        x.pass(7);
        Streets.finish(x, 1);
        Due.is("whyNot(2), one of two is done", x.whyNot(2), 'r');
        Streets.finish(x, 0);
        Due.is("whyNot(2), both are done", x.whyNot(2), '-');
    }

    private static void promise6Notice() {
        TwofrontArcade x = Streets.of(2, 8);
        x.plan(0, 3);
        Due.fails("notice(2, 0)", x, Due.NO_SUCH, () -> x.notice(2, 0));
        Due.fails("notice(1, 0), no work", x, Due.MAY_NOT, () -> x.notice(1, 0));
        Due.fails("notice(0, 6)", x, Due.BAD, () -> x.notice(0, 6));
        Due.fails("notice(0, 1000)", x, Due.BAD, () -> x.notice(0, 1000));
        Due.fails("notice(0, lowest)", x, Due.BAD, () -> x.notice(0, Integer.MIN_VALUE));
        Due.is("notice(0, 999)", x.notice(0, 999), 999);
        Due.is("notice(0, 7)", x.notice(0, 7), 7);
        x.pass(7);
        Due.is("whyNot(0), come", x.whyNot(0), '-');
        Due.fails("notice(0, 13) on the day 7", x, Due.BAD, () -> x.notice(0, 13));
        Due.is("notice(0, 20) on the day 7", x.notice(0, 20), 13);
        Due.is("whyNot(0), told anew", x.whyNot(0), 'n');
        Due.is("notice(0, 14) on the day 7", x.notice(0, 14), 7);
        x.pass(6);
        Due.is("whyNot(0) on the day 13", x.whyNot(0), 'n');
        x.pass(1);
        x.begin(0);
        Due.fails("notice(0, 14), on", x, Due.MAY_NOT, () -> x.notice(0, 14));
        Due.fails("notice(0, 30), on", x, Due.MAY_NOT, () -> x.notice(0, 30));
        x.addCrew('n');
        x.send(0, 0);
        x.pass(3);
        Due.fails("notice(0, 30), done", x, Due.MAY_NOT, () -> x.notice(0, 30));
    }

    private static void promises7And8WorkAndLeft() {
        TwofrontArcade x = Streets.of(2, 8);
        Due.fails("work(2)", x, Due.NO_SUCH, () -> x.work(2));
        Due.fails("work(-1)", x, Due.NO_SUCH, () -> x.work(-1));
        Due.fails("work(0), none", x, Due.NONE, () -> x.work(0));
        Due.fails("left(2)", x, Due.NO_SUCH, () -> x.left(2));
        Due.fails("left(-1)", x, Due.NO_SUCH, () -> x.left(-1));
        Due.fails("left(0), none", x, Due.NONE, () -> x.left(0));
        Streets.beginAt(x, 2, 1);
        Due.is("work(1), on", x.work(1), 'w');
        x.plan(0, 60);
        Due.is("work(0)", x.work(0), 'p');
        Due.is("left(0)", x.left(0), 60);
        x.addCrew('n');
        x.send(0, 1);
        x.pass(1);
        Due.is("left(1)", x.left(1), 1);
        Due.is("work(1), on to its last day", x.work(1), 'w');
        x.pass(1);
        Due.is("left(1), done", x.left(1), 0);
        Due.is("work(1), done", x.work(1), 'd');
        Due.is("left(0), not begun", x.left(0), 60);
    }

    private static void promise9WhyNot() {
        TwofrontArcade x = Streets.of(6, 12);
        x.addWall(0, 1);
        for (int unit = 0; unit < 5; unit++) {
            x.plan(unit, 5);
            x.notice(unit, 7);
        }
        x.rest(2, 0);
        x.addShop(3, 1, 0, false, 0, 60);
        Due.fails("whyNot(6)", x, Due.NO_SUCH, () -> x.whyNot(6));
        Due.fails("whyNot(5), no work", x, Due.NONE, () -> x.whyNot(5));
        Due.is("whyNot(0), no notice has come", x.whyNot(0), 'n');
        x.pass(7);
        Due.is("whyNot(0)", x.whyNot(0), '-');
        Due.is("whyNot(3), a shop", x.whyNot(3), 'o');
        Due.is("whyNot(2), rests", x.whyNot(2), 'r');
        x.begin(0);
        Due.is("whyNot(0), on", x.whyNot(0), 'b');
        Due.is("whyNot(1), beyond a wall", x.whyNot(1), 'w');
        Due.is("whyNot(2), rests on one that is on", x.whyNot(2), 'r');
        Due.is("whyNot(4)", x.whyNot(4), '-');
        x.begin(4);
        Due.is("whyNot(1), two on", x.whyNot(1), '2');
        Due.is("whyNot(2), two on", x.whyNot(2), '2');
        x.toStall(0);
        Due.is("whyNot(3), no shop", x.whyNot(3), '2');
        x.addCrew('n');
        x.send(0, 0);
        x.pass(5);
        Due.is("whyNot(0), done", x.whyNot(0), 'b');
        Due.is("whyNot(1), no wall with one that is on", x.whyNot(1), '-');
        Due.is("whyNot(2), rests on one that is done", x.whyNot(2), '-');
        Due.is("whyNot(3)", x.whyNot(3), '-');
        x.move(0, 3);
        Due.is("whyNot(3), who comes into a unit is there", x.whyNot(3), 'o');
    }

    private static void promise9WhyNotByWaysOut() {
        TwofrontArcade x = Streets.of(3, 4);
        x.plan(0, 5);
        x.plan(2, 5);
        x.notice(0, 7);
        x.notice(2, 7);
        x.addShop(1, 1, 51, false, 0, 5);
        x.pass(7);
        Due.is("whyNot(0), 51 pass 50", x.whyNot(0), 'l');
        Due.is("whyNot(2), none pass", x.whyNot(2), '-');
        Due.fails("begin(0), too narrow", x, Due.MAY_NOT, () -> x.begin(0));
        x.store(0);
        Due.is("whyNot(0), none go out of a shop that is shut", x.whyNot(0), '-');

        TwofrontArcade y = Streets.of(3, 4);
        y.plan(0, 5);
        y.notice(0, 7);
        y.addShop(1, 1, 50, false, 0, 5);
        y.pass(7);
        Due.is("whyNot(0), 50 pass 50", y.whyNot(0), '-');
    }

    private static void promise9WhyNotIsTheFirst() {
        TwofrontArcade x = Streets.of(6, 4);
        x.addWall(0, 1);
        x.plan(1, 9);
        x.notice(1, 7);
        x.plan(0, 9);
        x.plan(2, 9);
        x.rest(0, 2);
        x.plan(3, 9);
        x.plan(4, 9);
        x.notice(3, 7);
        x.notice(4, 7);
        x.pass(7);
        x.begin(1);
        x.addShop(0, 1, 60, false, 0, 9);
        Due.is("whyNot(0): n ahead of o, w, r, l", x.whyNot(0), 'n');
        x.notice(0, 14);
        x.pass(7);
        Due.is("whyNot(0): o ahead of w, r", x.whyNot(0), 'o');
        x.toStall(0);
        Due.is("whyNot(0): w ahead of r, l", x.whyNot(0), 'w');
        x.begin(4);
        Due.is("whyNot(0): 2 ahead of w, r, l", x.whyNot(0), '2');
        x.move(0, 0);
        Due.is("whyNot(0): o ahead of 2", x.whyNot(0), 'o');
        x.toStall(0);
        x.addCrew('n');
        x.send(0, 1);
        x.pass(9);
        Due.is("whyNot(0): r ahead of l", x.whyNot(0), 'r');
        Due.is("whyNot(1): b ahead of all", x.whyNot(1), 'b');
        x.notice(2, 30);
        x.pass(7);
        Streets.finish(x, 2);
        Due.is("whyNot(0): l", x.whyNot(0), 'l');
        x.store(0);
        Due.is("whyNot(0)", x.whyNot(0), '-');
    }

    private static void promise10Begin() {
        TwofrontArcade x = Streets.of(5, 12);
        x.addWall(0, 1);
        for (int unit = 0; unit < 4; unit++) {
            x.plan(unit, 5);
            x.notice(unit, 7);
        }
        x.rest(3, 0);
        Due.fails("begin(5)", x, Due.NO_SUCH, () -> x.begin(5));
        Due.fails("begin(-1)", x, Due.NO_SUCH, () -> x.begin(-1));
        Due.fails("begin(4), no work", x, Due.MAY_NOT, () -> x.begin(4));
        Due.fails("begin(0), not told", x, Due.MAY_NOT, () -> x.begin(0));
        x.pass(7);
        Due.fails("begin(3), rests", x, Due.MAY_NOT, () -> x.begin(3));
        Due.is("begin(0)", x.begin(0), 1);
        Due.is("work(0)", x.work(0), 'w');
        Due.is("left(0)", x.left(0), 5);
        Due.is("room(0)", x.room(0), 250);
        Due.fails("begin(0) again", x, Due.MAY_NOT, () -> x.begin(0));
        Due.fails("begin(1), wall", x, Due.MAY_NOT, () -> x.begin(1));
        Due.is("begin(2)", x.begin(2), 2);
        Due.fails("begin(3), two on", x, Due.MAY_NOT, () -> x.begin(3));
        x.addCrew('n');
        x.send(0, 0);
        x.pass(5);
        Due.is("room(0), done", x.room(0), 300);
        Due.is("begin(3), the one on which it rests being done", x.begin(3), 2);
    }

    private static void promise11Find() {
        TwofrontArcade x = Streets.of(3, 12);
        Streets.beginAt(x, 40, 0);
        x.plan(1, 5);
        Due.fails("find(3, 31)", x, Due.NO_SUCH, () -> x.find(3, 31));
        Due.fails("find(0, 0)", x, Due.BAD, () -> x.find(0, 0));
        Due.fails("find(0, 31)", x, Due.BAD, () -> x.find(0, 31));
        Due.fails("find(1, 31), not on", x, Due.BAD, () -> x.find(1, 31));
        Due.fails("find(1, 1), not on", x, Due.MAY_NOT, () -> x.find(1, 1));
        Due.fails("find(2, 1), no work", x, Due.MAY_NOT, () -> x.find(2, 1));
        Due.is("find(0, 30)", x.find(0, 30), 70);
        Due.fails("find(0, 30), 100 left", x, Due.MAY_NOT, () -> x.find(0, 30));
        Due.is("find(0, 29)", x.find(0, 29), 99);
        Due.is("left(0)", x.left(0), 99);
        Due.fails("find(0, 1), 100 left", x, Due.MAY_NOT, () -> x.find(0, 1));

        TwofrontArcade y = Streets.of(1, 12);
        Streets.beginAt(y, 1, 0);
        Due.is("find(0, 1)", y.find(0, 1), 2);
        y.addCrew('h');
        y.send(0, 0);
        y.pass(2);
        Due.fails("find(0, 1), done", y, Due.MAY_NOT, () -> y.find(0, 1));
    }
}
