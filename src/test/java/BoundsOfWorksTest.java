/** Promises 7 to 11, each sentence that names a bound: how works are, why they cannot begin, begins and finds. */
public final class BoundsOfWorksTest {
    private static final int NO_UNIT = 10;

    public static void main(String[] args) {
        workAndLeftOfNoSuchUnit();
        workAndLeftOfNoWork();
        workIsOnToTheEndOfItsLastDay();
        leftIs0AtLeast();
        whyNotOfNoSuchUnit();
        whyNotOfNoWork();
        notBeforeTheDayOfTheNotice();
        notWithoutANotice();
        notWithAShopThere();
        atMostTwoOn();
        noneBeyondAPartyWall();
        restsOnAllThatAreNotDone();
        waysOutOf50And250People();
        waysOutFromAStall();
        waysOutOnTheFartherHalf();
        begunOnce();
        beginOfNoSuchUnit();
        beginOfNoWork();
        findOfNoSuchUnit();
        aFindOf1To30Days();
        atMost99DaysLeft();
        noFindIfNoWorkIsOn();
        findThrowsTheFirst();
        Due.end("BoundsOfWorksTest");
    }

    // promises 7 and 8

    private static void workAndLeftOfNoSuchUnit() {
        TwofrontArcade x = Streets.of(10, 12);
        x.plan(0, 5);
        x.plan(9, 6);
        Due.noSuch("work", x, 10, x::work);
        Due.noSuch("left", x, 10, x::left);
        Due.is("work(0)", x.work(0), 'p');
        Due.is("work(9)", x.work(9), 'p');
        Due.is("left(0)", x.left(0), 5);
        Due.is("left(9)", x.left(9), 6);
    }

    /** "if it has no work" */
    private static void workAndLeftOfNoWork() {
        TwofrontArcade x = Streets.of(2, 12);
        Due.fails("work(0), none", x, Due.NONE, () -> x.work(0));
        Due.fails("left(0), none", x, Due.NONE, () -> x.left(0));
        x.plan(0, 1);
        Due.fails("work(1), one in the other unit alone", x, Due.NONE, () -> x.work(1));
        Due.fails("left(1), one in the other unit alone", x, Due.NONE, () -> x.left(1));
    }

    /** "then works without days left are done" */
    private static void workIsOnToTheEndOfItsLastDay() {
        TwofrontArcade x = Streets.of(1, 12);
        Streets.beginAt(x, 60, 0);
        x.addCrew('d');
        x.send(0, 0);
        Due.is("left(0) of 60, begun", x.left(0), 60);
        x.pass(30);
        x.pass(29);
        Due.is("work(0) behind 59 days", x.work(0), 'w');
        Due.is("left(0) behind 59 days", x.left(0), 1);
        x.pass(1);
        Due.is("work(0) behind 60 days", x.work(0), 'd');
        Due.is("left(0) behind 60 days", x.left(0), 0);
        x.pass(1);
        Due.is("work(0) behind 61 days", x.work(0), 'd');
        Due.is("left(0) behind 61 days", x.left(0), 0);
    }

    /** Four crews do four days of a work on a day, but no more than are left. */
    private static void leftIs0AtLeast() {
        for (int days = 1; days <= 9; days++) {
            TwofrontArcade x = Streets.of(1, 12);
            Streets.beginAt(x, days, 0);
            for (int crew = 0; crew < 4; crew++) {
                x.addCrew('d');
                x.send(crew, 0);
            }
            x.pass(1);
            Due.is("left(0) of " + days + " behind a day of four crews", x.left(0), Math.max(days - 4, 0));
            Due.is("work(0) of " + days + " behind a day of four crews", x.work(0), days > 4 ? 'w' : 'd');
        }
    }

    // promise 9

    private static void whyNotOfNoSuchUnit() {
        TwofrontArcade x = Streets.of(10, 12);
        x.plan(0, 5);
        x.plan(9, 6);
        Due.noSuch("whyNot", x, 10, x::whyNot);
        Due.is("whyNot(0)", x.whyNot(0), 'n');
        Due.is("whyNot(9)", x.whyNot(9), 'n');
    }

    private static void whyNotOfNoWork() {
        TwofrontArcade x = Streets.of(2, 12);
        Due.fails("whyNot(0), none", x, Due.NONE, () -> x.whyNot(0));
        x.plan(0, 1);
        Due.fails("whyNot(1), one in the other unit alone", x, Due.NONE, () -> x.whyNot(1));
    }

    /** "a notice that tells a day .., which has come": on that day itself, and on all later ones. */
    private static void notBeforeTheDayOfTheNotice() {
        TwofrontArcade x = Streets.of(1, 12);
        x.plan(0, 1);
        x.notice(0, 9);
        x.pass(8);
        Due.is("whyNot(0) on the day 8", x.whyNot(0), 'n');
        Due.fails("begin(0) on the day 8", x, Due.MAY_NOT, () -> x.begin(0));
        x.pass(1);
        Due.is("whyNot(0) on the day 9", x.whyNot(0), '-');
        x.pass(1);
        Due.is("whyNot(0) on the day 10", x.whyNot(0), '-');
        Due.is("begin(0) on the day 10", x.begin(0), 1);
    }

    /** "no notice": however late it is. */
    private static void notWithoutANotice() {
        TwofrontArcade x = Streets.of(2, 12);
        x.plan(0, 1);
        x.plan(1, 1);
        x.notice(1, 7);
        Due.is("whyNot(0) on the day 0, not told", x.whyNot(0), 'n');
        Streets.passTo(x, 999);
        Due.is("whyNot(0) on the day 999, not told", x.whyNot(0), 'n');
        Due.fails("begin(0) on the day 999, not told", x, Due.MAY_NOT, () -> x.begin(0));
        Due.is("whyNot(1) on the day 999, told", x.whyNot(1), '-');
    }

    /** "if no shop is in its unit": one on a stall, or one that is shut, is in none. */
    private static void notWithAShopThere() {
        TwofrontArcade x = Streets.of(3, 12);
        x.addShop(0, 1, 0, false, 0, 60);
        x.plan(0, 1);
        x.plan(2, 1);
        x.notice(0, 7);
        x.notice(2, 7);
        x.pass(7);
        Due.is("whyNot(0), the shop there", x.whyNot(0), 'o');
        Due.fails("begin(0), the shop there", x, Due.MAY_NOT, () -> x.begin(0));
        Due.is("whyNot(2), no shop there", x.whyNot(2), '-');
        x.toStall(0);
        Due.is("whyNot(0), the shop on a stall, which stands at the unit 0", x.whyNot(0), '-');
        x.move(0, 2);
        Due.is("whyNot(2), the shop coming", x.whyNot(2), 'o');
        Due.is("whyNot(0), the shop in another unit", x.whyNot(0), '-');
        x.store(0);
        Due.is("whyNot(2), the shop shut", x.whyNot(2), '-');
        Due.is("begin(0), the shop shut", x.begin(0), 1);
    }

    /** "fewer than two others are on": none, one, but not two; "Returns how many are on then". */
    private static void atMostTwoOn() {
        TwofrontArcade x = Streets.of(10, 12);
        for (int unit = 0; unit < 10; unit += 3) {
            x.plan(unit, 1);
            x.notice(unit, 7);
        }
        x.pass(7);
        Due.is("begin(0), none on", x.begin(0), 1);
        Due.is("whyNot(9), one on", x.whyNot(9), '-');
        Due.is("begin(9), one on", x.begin(9), 2);
        for (int unit : new int[] {3, 6}) {
            Due.is("whyNot(" + unit + "), two on", x.whyNot(unit), '2');
            Due.fails("begin(" + unit + "), two on", x, Due.MAY_NOT, () -> x.begin(unit));
        }
        x.addCrew('d');
        x.send(0, 0);
        x.pass(1);
        Due.is("whyNot(3), one on and one done", x.whyNot(3), '-');
        Due.is("begin(3), one on and one done", x.begin(3), 2);
        Due.is("whyNot(6), two on again", x.whyNot(6), '2');
        x.send(0, 3);
        x.pass(1);
        x.send(0, 9);
        x.pass(1);
        Due.is("begin(6), all others done", x.begin(6), 1);
    }

    /** "none of them in a unit with which its unit has a party wall", be it next to it or not. */
    private static void noneBeyondAPartyWall() {
        TwofrontArcade x = Streets.of(10, 12);
        x.addWall(0, 9);
        for (int unit : new int[] {0, 1, 9}) {
            x.plan(unit, 1);
            x.notice(unit, 7);
        }
        x.pass(7);
        Due.is("whyNot(0), the other one planned", x.whyNot(0), '-');
        x.begin(9);
        Due.is("whyNot(0), the other one on", x.whyNot(0), 'w');
        Due.fails("begin(0), the other one on", x, Due.MAY_NOT, () -> x.begin(0));
        Due.is("whyNot(1), no wall with one that is on", x.whyNot(1), '-');
        x.addWall(0, 1);
        Due.is("whyNot(1), a wall with one that is planned", x.whyNot(1), '-');
        x.addCrew('h');
        x.send(0, 9);
        x.pass(1);
        Due.is("whyNot(0), the other one done", x.whyNot(0), '-');
        Due.is("begin(0), the other one done", x.begin(0), 1);
        Due.is("whyNot(1), beyond the wall from the other side", x.whyNot(1), 'w');
    }

    /** "all works on which it rests are done": nine of them, the last one too. */
    private static void restsOnAllThatAreNotDone() {
        TwofrontArcade x = Streets.of(10, 12);
        x.addCrew('d');
        for (int unit = 0; unit < 10; unit++) {
            x.plan(unit, 1);
            x.notice(unit, 7);
        }
        for (int unit = 1; unit < 10; unit++) {
            x.rest(0, unit);
        }
        x.pass(7);
        for (int unit = 9; unit > 0; unit--) {
            Due.is("whyNot(0), " + unit + " not done", x.whyNot(0), 'r');
            x.begin(unit);
            Due.is("whyNot(0), one of " + unit + " on", x.whyNot(0), 'r');
            Due.fails("begin(0), one of " + unit + " on", x, Due.MAY_NOT, () -> x.begin(0));
            x.send(0, unit);
            x.pass(1);
        }
        Due.is("whyNot(0), all done", x.whyNot(0), '-');
        Due.is("begin(0), all done", x.begin(0), 1);
    }

    /** "the ways out are wide enough with it": 25 people for each metre that is left, and not one more. */
    private static void waysOutOf50And250People() {
        for (int more = 0; more <= 1; more++) {
            char due = more == 0 ? '-' : 'l';
            TwofrontArcade x = Streets.of(4, 4);
            x.addShop(1, 1, 50 + more, false, 0, 9);
            x.plan(0, 5);
            x.notice(0, 7);
            x.pass(7);
            Due.is("whyNot(0), " + (50 + more) + " people by 2 metres", x.whyNot(0), due);
            TwofrontArcade y = Streets.of(10, 12);
            y.addShop(1, 1, 99, false, 0, 9);
            y.addShop(3, 1, 99, false, 0, 9);
            y.addShop(4, 1, 52 + more, false, 0, 9);
            y.plan(0, 5);
            y.notice(0, 7);
            y.pass(7);
            Due.is("whyNot(0), " + (250 + more) + " people by 10 metres", y.whyNot(0), due);
            if (more == 0) {
                Due.is("begin(0), 50 people by 2 metres", x.begin(0), 1);
                Due.is("flow(0) is room(0)", x.flow(0), x.room(0));
                Due.is("begin(0), 250 people by 10 metres", y.begin(0), 1);
                Due.is("flow(0) is room(0) of 250", y.flow(0), y.room(0));
            } else {
                Due.fails("begin(0), 51 people by 2 metres", x, Due.MAY_NOT, () -> x.begin(0));
                Due.fails("begin(0), 251 people by 10 metres", y, Due.MAY_NOT, () -> y.begin(0));
            }
        }
    }

    /** "from the unit 0 if the shop is on a stall": its people pass that one alone. */
    private static void waysOutFromAStall() {
        for (int people = 50; people <= 51; people++) {
            TwofrontArcade x = Streets.of(4, 4);
            x.addShop(3, 1, people, false, 0, 9);
            for (int unit = 0; unit < 2; unit++) {
                x.plan(unit, 5);
                x.notice(unit, 7);
            }
            x.pass(7);
            Due.is("whyNot(0), " + people + " people by the other end", x.whyNot(0), '-');
            x.toStall(0);
            Due.is("whyNot(0), " + people + " people on a stall", x.whyNot(0), people == 50 ? '-' : 'l');
            Due.is("whyNot(1), " + people + " people on a stall", x.whyNot(1), '-');
        }
    }

    /** The people of the farther half pass the last unit. */
    private static void waysOutOnTheFartherHalf() {
        for (int people = 50; people <= 51; people++) {
            TwofrontArcade x = Streets.of(5, 4);
            x.addShop(3, 1, people, false, 0, 9);
            for (int unit = 2; unit < 5; unit += 2) {
                x.plan(unit, 5);
                x.notice(unit, 7);
            }
            x.pass(7);
            Due.is("whyNot(4), " + people + " people", x.whyNot(4), people == 50 ? '-' : 'l');
            Due.is("whyNot(2), " + people + " people behind it", x.whyNot(2), '-');
        }
    }

    /** "'b' it was begun": it is on, or done; no work is begun twice. */
    private static void begunOnce() {
        TwofrontArcade x = Streets.of(1, 12);
        Streets.beginAt(x, 1, 0);
        Due.is("whyNot(0), on", x.whyNot(0), 'b');
        Due.fails("begin(0), on", x, Due.MAY_NOT, () -> x.begin(0));
        x.addCrew('d');
        x.send(0, 0);
        x.pass(1);
        Due.is("whyNot(0), done", x.whyNot(0), 'b');
        Due.fails("begin(0), done", x, Due.MAY_NOT, () -> x.begin(0));
    }

    // promise 10

    private static void beginOfNoSuchUnit() {
        TwofrontArcade x = Streets.of(10, 12);
        x.plan(9, 1);
        x.notice(9, 7);
        x.pass(7);
        Due.noSuch("begin", x, 10, x::begin);
        Due.is("begin(9)", x.begin(9), 1);
    }

    private static void beginOfNoWork() {
        TwofrontArcade x = Streets.of(2, 12);
        x.plan(0, 1);
        x.notice(0, 7);
        x.pass(7);
        Due.fails("begin(1), no work", x, Due.MAY_NOT, () -> x.begin(1));
        Due.is("begin(0)", x.begin(0), 1);
    }

    // promise 11

    private static void findOfNoSuchUnit() {
        TwofrontArcade x = Streets.withWorksOn(10, 0, 9);
        Due.noSuch("find(.., 1)", x, 10, unit -> x.find(unit, 1));
        Due.is("find(0, 1)", x.find(0, 1), 10);
        Due.is("find(9, 2)", x.find(9, 2), 11);
    }

    /** "1 to 30" */
    private static void aFindOf1To30Days() {
        TwofrontArcade x = Streets.withWorksOn(2, 0);
        Due.outOfRange("find(0, ..)", x, 1, 30, days -> x.find(0, days));
        Due.is("find(0, 1)", x.find(0, 1), 10);
        Due.is("find(0, 30)", x.find(0, 30), 40);
    }

    /** "or more than 99 days would be left": 99 at most, by whatever finds. */
    private static void atMost99DaysLeft() {
        TwofrontArcade x = Streets.of(2, 12);
        Streets.beginAt(x, 60, 0, 1);
        Due.is("find(0, 30)", x.find(0, 30), 90);
        Due.fails("find(0, 10), 100 left", x, Due.MAY_NOT, () -> x.find(0, 10));
        Due.fails("find(0, 30), 120 left", x, Due.MAY_NOT, () -> x.find(0, 30));
        Due.is("find(0, 9)", x.find(0, 9), 99);
        Due.fails("find(0, 1), 100 left", x, Due.MAY_NOT, () -> x.find(0, 1));
        Due.is("left(0)", x.left(0), 99);
        Due.is("find(1, 30)", x.find(1, 30), 90);
        x.addCrew('d');
        x.send(0, 0);
        x.pass(1);
        Due.is("left(0) behind a day", x.left(0), 98);
        Due.fails("find(0, 2), 100 left", x, Due.MAY_NOT, () -> x.find(0, 2));
        Due.is("find(0, 1) behind a day", x.find(0, 1), 99);
    }

    /** "if no work is on there": none, a planned one, or one that is done. */
    private static void noFindIfNoWorkIsOn() {
        TwofrontArcade x = Streets.of(2, 12);
        Due.fails("find(0, 1), no work", x, Due.MAY_NOT, () -> x.find(0, 1));
        x.plan(0, 1);
        Due.fails("find(0, 1), planned", x, Due.MAY_NOT, () -> x.find(0, 1));
        x.notice(0, 7);
        x.pass(7);
        x.begin(0);
        x.addCrew('d');
        x.send(0, 0);
        Due.is("find(0, 1), on", x.find(0, 1), 2);
        x.pass(2);
        Due.fails("find(0, 1), done", x, Due.MAY_NOT, () -> x.find(0, 1));
    }

    /** IndexOutOfBoundsException, then IllegalArgumentException, then UnsupportedOperationException. */
    private static void findThrowsTheFirst() {
        TwofrontArcade x = Streets.of(10, 12);
        Streets.beginAt(x, 60, 0);
        x.find(0, 30);
        x.find(0, 9);
        Due.fails("find(10, 0)", x, Due.NO_SUCH, () -> x.find(NO_UNIT, 0));
        Due.fails("find(-1, 31)", x, Due.NO_SUCH, () -> x.find(-1, 31));
        Due.outOfRange("find(0, ..), 99 left,", x, 1, 30, days -> x.find(0, days));
        Due.outOfRange("find(1, ..), no work,", x, 1, 30, days -> x.find(1, days));
    }
}
