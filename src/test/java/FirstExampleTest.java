/** The calls of the document's first example, with their answers. */
public final class FirstExampleTest {
    public static void main(String[] args) {
        TwofrontArcade x = new TwofrontArcade();
        build(x);
        firstWeek(x);
        works(x);
        end(x);
        Due.end("FirstExampleTest");
    }

    private static void build(TwofrontArcade x) {
        Due.is("addUnit(6)", x.addUnit(6), 0);
        Due.is("addUnit(5)", x.addUnit(5), 1);
        Due.is("addUnit(8)", x.addUnit(8), 2);
        Due.is("addUnit(7)", x.addUnit(7), 3);
        Due.is("addWall(0, 1)", x.addWall(0, 1), 1);
        Due.is("addWall(1, 2)", x.addWall(1, 2), 2);
        Due.is("addShop(0, ..)", x.addShop(0, 5, 40, true, 1, 20), 0);
        Due.is("addShop(2, ..)", x.addShop(2, 3, 30, true, 0, 9), 1);
        Due.is("plan(1, 3)", x.plan(1, 3), 1);
        Due.is("plan(3, 5)", x.plan(3, 5), 2);
        Due.is("rest(3, 1)", x.rest(3, 1), false);
        Due.is("notice(1, 7)", x.notice(1, 7), 7);
        Due.is("notice(3, 8)", x.notice(3, 8), 8);
    }

    private static void firstWeek(TwofrontArcade x) {
        Due.is("whyNot(1)", x.whyNot(1), 'n');
        Due.is("shortest()", x.shortest(), 8);
        Due.is("startIn(3)", x.startIn(3), 3);
        Due.is("setPeople(0, 200)", x.setPeople(0, 200), 100);
        Due.is("pass(7)", x.pass(7), 7);
        Due.is("day()", x.day(), 7);
        Due.is("took(0)", x.took(0), 4000);
        Due.is("begin(1)", x.begin(1), 1);
        Due.is("whyNot(3)", x.whyNot(3), 'n');
        Due.is("addCrew('n')", x.addCrew('n'), 0);
        Due.is("addCrew('d')", x.addCrew('d'), 1);
        Due.is("send(0, 1)", x.send(0, 1), -1);
        Due.is("canWork(0)", x.canWork(0), false);
        Due.is("send(1, 1)", x.send(1, 1), -1);
        Due.is("isDusty(0)", x.isDusty(0), true);
        Due.is("seen(0)", x.seen(0), 80);
        Due.is("known(0)", x.known(0), 100);
        Due.is("flow(0)", x.flow(0), 40);
        Due.is("room(1)", x.room(1), 75);
        Due.is("areWide()", x.areWide(), true);
    }

    private static void works(TwofrontArcade x) {
        Due.is("pass(1)", x.pass(1), 8);
        Due.is("lost(0, 'd')", x.lost(0, 'd'), 400);
        Due.is("lostDays(1, 'q')", x.lostDays(1, 'q'), 0);
        Due.is("left(1)", x.left(1), 2);
        Due.is("find(1, 2)", x.find(1, 2), 4);
        Due.is("strike(2)", x.strike(2), 2);
        Due.is("pass(1)", x.pass(1), 9);
        Due.is("toStall(1)", x.toStall(1), 1);
        Due.is("comes(1)", x.comes(1), true);
        Due.is("state(1)", x.state(1), 't');
        Due.is("mayBeShut(1)", x.mayBeShut(1), 9);
        Due.is("pass(1)", x.pass(1), 10);
        Due.is("store(0)", x.store(0), 20);
        Due.is("pass(4)", x.pass(4), 14);
    }

    private static void end(TwofrontArcade x) {
        Due.is("work(1)", x.work(1), 'd');
        Due.is("move(1, 2)", x.move(1, 2), 8);
        Due.is("unitOf(1)", x.unitOf(1), 2);
        Due.is("homeOf(1)", x.homeOf(1), 2);
        Due.is("rent(0)", x.rent(0), 520);
        Due.is("fund()", x.fund(), 1032);
        Due.is("openShare()", x.openShare(), 0.5f);
        Due.is("meanTaken()", x.meanTaken(), 4217.5);
        Due.is("checksum()", x.checksum(), 4442546018017792339L);
        Due.is("isSound()", x.isSound(), true);
    }
}
