/** Promises 24 to 29: ways out, people by weekdays, and days that go by. */
public final class WaysAndDaysTest {
    public static void main(String[] args) {
        promise24Flow();
        promise24FlowByAnEvenNumber();
        promise25Room();
        promise26AreWide();
        promise27SetPeople();
        promise28Pass();
        promise28PassByShutDays();
        promises28And29LastDay();
        promise28OrderInADay();
        Due.end("WaysAndDaysTest");
    }

    private static void promise24Flow() {
        TwofrontArcade x = Streets.of(5, 12);
        x.addShop(0, 1, 1, false, 0, 9);
        x.addShop(1, 1, 2, false, 0, 9);
        x.addShop(2, 1, 4, false, 0, 9);
        x.addShop(3, 1, 8, false, 0, 9);
        x.addShop(4, 1, 16, false, 0, 9);
        Due.fails("flow(5)", x, Due.NO_SUCH, () -> x.flow(5));
        Due.fails("flow(-1)", x, Due.NO_SUCH, () -> x.flow(-1));
        Due.is("flow(0), the middle one goes there too", x.flow(0), 7);
        Due.is("flow(1)", x.flow(1), 6);
        Due.is("flow(2)", x.flow(2), 4);
        Due.is("flow(3)", x.flow(3), 8);
        Due.is("flow(4)", x.flow(4), 24);
        x.store(1);
        Due.is("flow(0), one shut", x.flow(0), 5);
        x.toStall(4);
        Due.is("flow(0), one on a stall", x.flow(0), 21);
        Due.is("flow(1), one on a stall", x.flow(1), 4);
        Due.is("flow(4), one on a stall", x.flow(4), 8);
        x.pass(1);
        Due.is("flow(0), the same later", x.flow(0), 21);
    }

    private static void promise24FlowByAnEvenNumber() {
        TwofrontArcade x = Streets.of(4, 12);
        x.addShop(1, 1, 2, false, 0, 9);
        x.addShop(2, 1, 4, false, 0, 9);
        Due.is("flow(0)", x.flow(0), 2);
        Due.is("flow(1)", x.flow(1), 2);
        Due.is("flow(2)", x.flow(2), 4);
        Due.is("flow(3)", x.flow(3), 4);

        TwofrontArcade y = Streets.of(1, 12);
        y.addShop(0, 1, 9, false, 0, 9);
        Due.is("flow(0) of one unit", y.flow(0), 9);
    }

    private static void promise25Room() {
        TwofrontArcade x = new TwofrontArcade();
        x.addUnit(4);
        x.addUnit(9);
        Due.fails("room(2)", x, Due.NO_SUCH, () -> x.room(2));
        Due.fails("room(-1)", x, Due.NO_SUCH, () -> x.room(-1));
        Due.is("room(0)", x.room(0), 100);
        Due.is("room(1)", x.room(1), 225);
        Streets.beginAt(x, 2, 0);
        Due.is("room(0), a hoarding", x.room(0), 50);
        Due.is("room(1), none", x.room(1), 225);
        x.addCrew('d');
        x.send(0, 0);
        x.pass(2);
        Due.is("room(0), done", x.room(0), 100);
    }

    private static void promise26AreWide() {
        TwofrontArcade x = Streets.of(2, 4);
        Due.is("areWide(), no shops", x.areWide(), true);
        x.addShop(0, 1, 99, false, 0, 9);
        Due.is("areWide(), 99 pass 100", x.areWide(), true);
        Streets.beginAt(x, 9, 1);
        Due.is("areWide(), nobody passes the hoarding", x.areWide(), true);
        Due.fails("addShop(1, ..), a work on", x, Due.MAY_NOT, () -> x.addShop(1, 1, 51, false, 0, 9));
    }

    private static void promise27SetPeople() {
        TwofrontArcade x = Streets.of(1, 4);
        x.addShop(0, 1, 0, false, 0, 9);
        Due.fails("setPeople(-1, 5)", x, Due.BAD, () -> x.setPeople(-1, 5));
        Due.fails("setPeople(7, 5)", x, Due.BAD, () -> x.setPeople(7, 5));
        Due.fails("setPeople(0, -1)", x, Due.BAD, () -> x.setPeople(0, -1));
        Due.fails("setPeople(0, 1000)", x, Due.BAD, () -> x.setPeople(0, 1000));
        for (int weekday = 0; weekday < 7; weekday++) {
            Due.is("setPeople(" + weekday + ", ..)", x.setPeople(weekday, weekday == 6 ? 999 : weekday), 100);
        }
        Due.is("setPeople(6, 0)", x.setPeople(6, 0), 999);
        Due.is("setPeople(6, 999)", x.setPeople(6, 999), 0);
        x.pass(6);
        Due.is("took(0) by the weekdays 0 to 5", x.took(0), 15);
        x.pass(1);
        Due.is("took(0) by the weekday 6", x.took(0), 1014);
        x.pass(2);
        Due.is("took(0) by the weekdays 0 and 1 again", x.took(0), 1015);
    }

    private static void promise28Pass() {
        TwofrontArcade x = new TwofrontArcade();
        Due.fails("pass(0)", x, Due.BAD, () -> x.pass(0));
        Due.fails("pass(-1)", x, Due.BAD, () -> x.pass(-1));
        Due.fails("pass(31)", x, Due.BAD, () -> x.pass(31));
        Due.is("pass(1)", x.pass(1), 1);
        Due.is("pass(30)", x.pass(30), 31);
        Due.is("day()", x.day(), 31);
    }

    private static void promise28PassByShutDays() {
        TwofrontArcade x = Streets.of(3, 12);
        x.addShop(0, 1, 0, false, 0, 5);
        x.addShop(1, 1, 0, false, 0, 1);
        x.store(0);
        Due.fails("pass(6), shut on 6 days of 5", x, Due.MAY_NOT, () -> x.pass(6));
        Due.fails("pass(31), shut on 31 days of 5", x, Due.BAD, () -> x.pass(31));
        x.move(1, 2);
        Due.is("pass(5), shut on 5 of 5 and 1 of 1", x.pass(5), 5);
        Due.is("mayBeShut(0)", x.mayBeShut(0), 0);
        Due.is("mayBeShut(1)", x.mayBeShut(1), 0);
        Due.fails("pass(1), shut on 6 days of 5", x, Due.MAY_NOT, () -> x.pass(1));
        Due.is("lost(0, 's')", x.lost(0, 's'), 500);
        Due.is("lost(1, 's')", x.lost(1, 's'), 100);
    }

    private static void promises28And29LastDay() {
        TwofrontArcade x = Streets.of(2, 12);
        x.addShop(0, 1, 0, false, 0, 9);
        for (int i = 0; i < 33; i++) {
            x.pass(30);
        }
        Due.is("day()", x.day(), 990);
        Due.fails("pass(10), the day 1000", x, Due.FULL, () -> x.pass(10));
        Due.fails("pass(31), the day 1021", x, Due.BAD, () -> x.pass(31));
        x.store(0);
        Due.fails("pass(10), the day 1000, and shut on 10 of 9", x, Due.MAY_NOT, () -> x.pass(10));
        Due.is("pass(9), the day 999", x.pass(9), 999);
        Due.is("day() at last", x.day(), 999);
        x.addShop(1, 1, 0, false, 0, 9);
        x.toStall(1);
        Due.fails("pass(1), a shop being shut on too many days", x, Due.MAY_NOT, () -> x.pass(1));
        Due.fails("pass(1) of a street without shops", past(), Due.FULL, () -> past().pass(1));
        Due.is("took(0)", x.took(0), 99000);
    }

    private static TwofrontArcade past() {
        TwofrontArcade x = new TwofrontArcade();
        for (int i = 0; i < 37; i++) {
            x.pass(27);
        }
        return x;
    }

    /** Trade comes first, so the last day of a work still hides, and dust is made on it. */
    private static void promise28OrderInADay() {
        TwofrontArcade x = Streets.of(2, 12);
        x.addWall(0, 1);
        x.addShop(0, 1, 0, true, 0, 9);
        Streets.beginAt(x, 1, 1);
        x.addCrew('d');
        x.send(0, 1);
        x.pass(1);
        Due.is("work(1)", x.work(1), 'd');
        Due.is("lost(0, 'h') on the last day of a work", x.lost(0, 'h'), 20);
        Due.is("lost(0, 'd') on the last day of a work", x.lost(0, 'd'), 40);
        x.pass(1);
        Due.is("lost(0, 'h') behind it", x.lost(0, 'h'), 20);
        Due.is("lost(0, 'd') behind it", x.lost(0, 'd'), 40);

        TwofrontArcade y = Streets.of(2, 12);
        y.addWall(0, 1);
        y.addShop(0, 1, 0, true, 0, 9);
        Streets.beginAt(y, 5, 1);
        y.addCrew('d');
        y.send(0, 1);
        y.strike(2);
        y.pass(2);
        Due.is("lost(0, 'd') in a strike", y.lost(0, 'd'), 0);
        Due.is("lostDays(1, 's') in a strike", y.lostDays(1, 's'), 2);
        y.pass(1);
        Due.is("lost(0, 'd') behind a strike", y.lost(0, 'd'), 40);
        Due.is("left(1) behind a strike", y.left(1), 4);
    }
}
