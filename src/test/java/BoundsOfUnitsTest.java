/** Promises 1 to 6, each sentence that names a bound: a new object, units, party walls, plans, rests and notices. */
public final class BoundsOfUnitsTest {
    private static final int NO_UNIT = 10;

    public static void main(String[] args) {
        newObjectHasNoUnits();
        newObjectHasNoShopsAndCrews();
        newObjectIsOnTheDay0();
        widthIs4To12();
        atMost10Units();
        noUnitBehindAShop();
        addUnitThrowsTheFirst();
        wallsOfNoSuchUnit();
        wallsFromNoneToAll();
        noWallWithItself();
        noSecondWall();
        noWallWhileAWorkIsOn();
        addWallThrowsTheFirst();
        planOfNoSuchUnit();
        aWorkOf1To60Days();
        plansFromNoneToAll();
        noSecondWork();
        planThrowsTheFirst();
        restOfNoSuchUnit();
        restNeedsBothWorks();
        noRestOfOneThatWasBegun();
        noWorkRestsOnItself();
        noWorkRestsOnItselfByHoweverMany();
        restAnswersWhetherItDid();
        restsFromNoneToAll();
        restThrowsTheFirst();
        noticeOfNoSuchUnit();
        aNoticeNeedsAWorkThatWasNotBegun();
        aNoticeIs7DaysAheadAtLeast();
        aNoticeIsForTheDay999AtMost();
        theLastNoticeIsToldOnTheDay992();
        aNoticeIsInPlaceOfAnotherOne();
        noticeThrowsTheFirst();
        Due.end("BoundsOfUnitsTest");
    }

    // promise 1

    /** "Creates a passage without units": not even the number 0 is one. */
    private static void newObjectHasNoUnits() {
        TwofrontArcade x = new TwofrontArcade();
        x.addCrew('d');
        Due.noSuch("addWall(.., 0) of none", x, 0, unit -> x.addWall(unit, 0));
        Due.noSuch("plan(.., 1) of none", x, 0, unit -> x.plan(unit, 1));
        Due.noSuch("rest(.., 0) of none", x, 0, unit -> x.rest(unit, 0));
        Due.noSuch("notice(.., 7) of none", x, 0, unit -> x.notice(unit, 7));
        Due.noSuch("work of none", x, 0, x::work);
        Due.noSuch("left of none", x, 0, x::left);
        Due.noSuch("whyNot of none", x, 0, x::whyNot);
        Due.noSuch("begin of none", x, 0, x::begin);
        Due.noSuch("find(.., 1) of none", x, 0, unit -> x.find(unit, 1));
        Due.noSuch("addShop(..) of none", x, 0, unit -> x.addShop(unit, 1, 0, false, 0, 0));
        Due.noSuch("flow of none", x, 0, x::flow);
        Due.noSuch("room of none", x, 0, x::room);
        Due.noSuch("lostDays(.., 's') of none", x, 0, unit -> x.lostDays(unit, 's'));
        Due.noSuch("startIn of none", x, 0, x::startIn);
        Due.fails("send(0, 0) of none", x, Due.NO_SUCH, () -> x.send(0, 0));
        Due.is("send(0, -1) of none", x.send(0, -1), -1);
    }

    /** "Creates a passage without .. shops and crews". */
    private static void newObjectHasNoShopsAndCrews() {
        TwofrontArcade x = new TwofrontArcade();
        x.addUnit(12);
        Due.noSuch("state of none", x, 0, x::state);
        Due.noSuch("unitOf of none", x, 0, x::unitOf);
        Due.noSuch("homeOf of none", x, 0, x::homeOf);
        Due.noSuch("move(.., 0) of none", x, 0, shop -> x.move(shop, 0));
        Due.noSuch("toStall of none", x, 0, x::toStall);
        Due.noSuch("store of none", x, 0, x::store);
        Due.noSuch("comes of none", x, 0, x::comes);
        Due.noSuch("mayBeShut of none", x, 0, x::mayBeShut);
        Due.noSuch("seen of none", x, 0, x::seen);
        Due.noSuch("known of none", x, 0, x::known);
        Due.noSuch("isDusty of none", x, 0, x::isDusty);
        Due.noSuch("took of none", x, 0, x::took);
        Due.noSuch("lost(.., 'h') of none", x, 0, shop -> x.lost(shop, 'h'));
        Due.noSuch("rent of none", x, 0, x::rent);
        Due.noSuch("send(.., -1) of none", x, 0, crew -> x.send(crew, -1));
        Due.noSuch("canWork of none", x, 0, x::canWork);
        Due.fails("openShare() of none", x, Due.NONE, x::openShare);
        Due.fails("meanTaken() of none", x, Due.NONE, x::meanTaken);
    }

    /** "on the day 0" */
    private static void newObjectIsOnTheDay0() {
        TwofrontArcade x = new TwofrontArcade();
        Due.is("day() at first", x.day(), 0);
        Due.is("pass(1) at first", x.pass(1), 1);
        Due.is("day() of another object", new TwofrontArcade().day(), 0);
    }

    // promise 2

    /** "a width of the passage at it, 4 to 12 metres" */
    private static void widthIs4To12() {
        TwofrontArcade x = new TwofrontArcade();
        Due.outOfRange("addUnit, the first one,", x, 4, 12, x::addUnit);
        Due.is("addUnit(4)", x.addUnit(4), 0);
        Due.is("addUnit(12)", x.addUnit(12), 1);
        Due.outOfRange("addUnit, the third one,", x, 4, 12, x::addUnit);
        Due.is("room(0) of 4 metres", x.room(0), 100);
        Due.is("room(1) of 12 metres", x.room(1), 300);
    }

    /** "At most 10 are numbered from 0" */
    private static void atMost10Units() {
        TwofrontArcade x = new TwofrontArcade();
        for (int number = 0; number < 10; number++) {
            Due.noSuch("room, " + number + " units,", x, number, x::room);
            Due.is("addUnit(" + (4 + number % 9) + ")", x.addUnit(4 + number % 9), number);
        }
        Due.fails("addUnit(4), 10 units", x, Due.FULL, () -> x.addUnit(4));
        Due.fails("addUnit(12), 10 units", x, Due.FULL, () -> x.addUnit(12));
        Due.noSuch("room, 10 units,", x, 10, x::room);
        Due.is("room(9)", x.room(9), 100);
    }

    /** "Throws UnsupportedOperationException if there is a shop", be it shut. */
    private static void noUnitBehindAShop() {
        TwofrontArcade x = Streets.of(1, 12);
        x.plan(0, 1);
        x.addCrew('d');
        Due.is("addUnit(12), no shop", x.addUnit(12), 1);
        x.addShop(0, 1, 0, false, 0, 9);
        Due.fails("addUnit(12), a shop", x, Due.MAY_NOT, () -> x.addUnit(12));
        x.store(0);
        Due.fails("addUnit(12), a shop that is shut", x, Due.MAY_NOT, () -> x.addUnit(12));
    }

    /** IllegalArgumentException, then UnsupportedOperationException, then IllegalStateException. */
    private static void addUnitThrowsTheFirst() {
        TwofrontArcade x = Streets.of(10, 12);
        Due.outOfRange("addUnit, 10 units,", x, 4, 12, x::addUnit);
        x.addShop(0, 1, 0, false, 0, 9);
        Due.fails("addUnit(4), 10 units and a shop", x, Due.MAY_NOT, () -> x.addUnit(4));
        Due.outOfRange("addUnit, 10 units and a shop,", x, 4, 12, x::addUnit);
        TwofrontArcade y = Streets.of(1, 12);
        y.addShop(0, 1, 0, false, 0, 9);
        Due.outOfRange("addUnit, a shop,", y, 4, 12, y::addUnit);
    }

    // promise 3

    /** "if there is no such unit, for either" */
    private static void wallsOfNoSuchUnit() {
        TwofrontArcade x = Streets.of(3, 12);
        Due.noSuch("addWall(.., 2)", x, 3, unit -> x.addWall(unit, 2));
        Due.noSuch("addWall(2, ..)", x, 3, unit -> x.addWall(2, unit));
        Due.is("addWall(2, 0)", x.addWall(2, 0), 1);
    }

    /** "Returns how many party walls the first one has": 1 at least, and 9 at most. */
    private static void wallsFromNoneToAll() {
        TwofrontArcade x = Streets.of(10, 12);
        for (int unit = 0; unit < 9; unit++) {
            for (int other = unit + 1; other < 10; other++) {
                // the first one has one with each unit below the other one, but for itself
                Due.is("addWall(" + unit + ", " + other + ")", x.addWall(unit, other), other);
            }
        }
        for (int one = 0; one < 10; one++) {
            int unit = one;
            int other = (one + 1) % 10;
            Due.fails("addWall(" + unit + ", " + other + ") of all", x, Due.MAY_NOT, () -> x.addWall(unit, other));
        }
    }

    /** "if both are the same" */
    private static void noWallWithItself() {
        TwofrontArcade x = Streets.of(10, 12);
        Due.fails("addWall(0, 0)", x, Due.BAD, () -> x.addWall(0, 0));
        Due.fails("addWall(9, 9)", x, Due.BAD, () -> x.addWall(9, 9));
        Due.is("addWall(0, 9)", x.addWall(0, 9), 1);
        Due.is("addWall(9, 8)", x.addWall(9, 8), 2);
    }

    /** "if they have one" */
    private static void noSecondWall() {
        TwofrontArcade x = Streets.of(3, 12);
        x.addWall(0, 1);
        Due.fails("addWall(0, 1), which they have", x, Due.MAY_NOT, () -> x.addWall(0, 1));
        Due.fails("addWall(1, 0), which they have", x, Due.MAY_NOT, () -> x.addWall(1, 0));
        Due.is("addWall(1, 2)", x.addWall(1, 2), 2);
        Due.is("addWall(2, 0)", x.addWall(2, 0), 2);
    }

    /** "or a work is on in one of them": not ahead of it, nor behind it. */
    private static void noWallWhileAWorkIsOn() {
        TwofrontArcade x = Streets.of(5, 12);
        x.addCrew('d');
        x.plan(2, 1);
        x.notice(2, 7);
        Due.is("addWall(2, 0), planned", x.addWall(2, 0), 1);
        x.pass(7);
        x.begin(2);
        Due.fails("addWall(2, 1), on in the first one", x, Due.MAY_NOT, () -> x.addWall(2, 1));
        Due.fails("addWall(1, 2), on in the other one", x, Due.MAY_NOT, () -> x.addWall(1, 2));
        Due.is("addWall(1, 0), on in neither", x.addWall(1, 0), 1);
        x.send(0, 2);
        x.pass(1);
        Due.is("addWall(2, 1), done", x.addWall(2, 1), 2);
        Due.is("addWall(3, 2), done", x.addWall(3, 2), 1);
    }

    private static void addWallThrowsTheFirst() {
        TwofrontArcade x = Streets.withWorksOn(NO_UNIT, 0);
        Due.fails("addWall(10, 10)", x, Due.NO_SUCH, () -> x.addWall(NO_UNIT, NO_UNIT));
        Due.fails("addWall(0, 10), on", x, Due.NO_SUCH, () -> x.addWall(0, NO_UNIT));
        Due.fails("addWall(-1, 0), on", x, Due.NO_SUCH, () -> x.addWall(-1, 0));
        Due.fails("addWall(0, 0), on", x, Due.BAD, () -> x.addWall(0, 0));
    }

    // promise 4

    private static void planOfNoSuchUnit() {
        TwofrontArcade x = Streets.of(10, 12);
        Due.noSuch("plan(.., 1)", x, 10, unit -> x.plan(unit, 1));
        Due.is("plan(9, 1)", x.plan(9, 1), 1);
        Due.is("plan(0, 1)", x.plan(0, 1), 2);
    }

    /** "A unit can have a work of 1 to 60 days" */
    private static void aWorkOf1To60Days() {
        TwofrontArcade x = Streets.of(2, 12);
        Due.outOfRange("plan(0, ..)", x, 1, 60, days -> x.plan(0, days));
        x.plan(0, 1);
        Due.outOfRange("plan(1, ..)", x, 1, 60, days -> x.plan(1, days));
        x.plan(1, 60);
        Due.is("left(0) of 1", x.left(0), 1);
        Due.is("left(1) of 60", x.left(1), 60);
    }

    /** "Returns how many works there are that are not done": 1 at least, and 10 at most. */
    private static void plansFromNoneToAll() {
        TwofrontArcade x = Streets.of(10, 12);
        for (int unit = 0; unit < 10; unit++) {
            Due.is("plan(" + unit + ", 1)", x.plan(unit, 1), unit + 1);
        }
        TwofrontArcade y = Streets.withWorksOn(4, 0, 3);
        Due.is("plan(1, 5), two on", y.plan(1, 5), 3);
        y.addCrew('n');
        y.send(0, 0);
        y.pass(9);
        y.send(0, 3);
        y.pass(9);
        Due.is("plan(2, 5), two done", y.plan(2, 5), 2);
    }

    /** "if it has a work", be it planned, on or done. */
    private static void noSecondWork() {
        TwofrontArcade x = Streets.of(2, 12);
        x.plan(0, 1);
        Due.fails("plan(0, 1), planned", x, Due.MAY_NOT, () -> x.plan(0, 1));
        x.notice(0, 7);
        x.pass(7);
        x.begin(0);
        Due.fails("plan(0, 1), on", x, Due.MAY_NOT, () -> x.plan(0, 1));
        x.addCrew('h');
        x.send(0, 0);
        x.pass(1);
        Due.fails("plan(0, 1), done", x, Due.MAY_NOT, () -> x.plan(0, 1));
        Due.is("plan(1, 1), none there", x.plan(1, 1), 1);
    }

    private static void planThrowsTheFirst() {
        TwofrontArcade x = Streets.of(10, 12);
        x.plan(0, 5);
        Due.fails("plan(10, 61)", x, Due.NO_SUCH, () -> x.plan(NO_UNIT, 61));
        Due.fails("plan(-1, 0)", x, Due.NO_SUCH, () -> x.plan(-1, 0));
        Due.outOfRange("plan(0, ..), which has a work,", x, 1, 60, days -> x.plan(0, days));
    }

    // promise 5

    private static void restOfNoSuchUnit() {
        TwofrontArcade x = Streets.of(2, 12);
        x.plan(0, 1);
        x.plan(1, 1);
        Due.noSuch("rest(.., 0)", x, 2, unit -> x.rest(unit, 0));
        Due.noSuch("rest(0, ..)", x, 2, unit -> x.rest(0, unit));
        Due.is("rest(0, 1)", x.rest(0, 1), false);
    }

    /** "if one of them has no work" */
    private static void restNeedsBothWorks() {
        TwofrontArcade x = Streets.of(3, 12);
        Due.fails("rest(0, 1), no works", x, Due.MAY_NOT, () -> x.rest(0, 1));
        x.plan(0, 1);
        Due.fails("rest(0, 1), the first one's alone", x, Due.MAY_NOT, () -> x.rest(0, 1));
        Due.fails("rest(1, 0), the other one's alone", x, Due.MAY_NOT, () -> x.rest(1, 0));
        x.plan(1, 1);
        Due.is("rest(1, 0)", x.rest(1, 0), false);
    }

    /** "or the first one's was begun"; the other one's may be planned, on or done. */
    private static void noRestOfOneThatWasBegun() {
        TwofrontArcade x = Streets.of(5, 12);
        x.addCrew('d');
        for (int unit = 0; unit < 5; unit++) {
            x.plan(unit, 1);
            x.notice(unit, 7);
        }
        x.pass(7);
        x.begin(0);
        Due.fails("rest(0, 1), on", x, Due.MAY_NOT, () -> x.rest(0, 1));
        Due.is("rest(1, 0), on one that is on", x.rest(1, 0), false);
        x.send(0, 0);
        x.pass(1);
        Due.fails("rest(0, 2), done", x, Due.MAY_NOT, () -> x.rest(0, 2));
        Due.is("rest(2, 0), on one that is done", x.rest(2, 0), false);
        Due.is("rest(3, 4), on one that is planned", x.rest(3, 4), false);
        Due.is("whyNot(1), the one on which it rests being done", x.whyNot(1), '-');
        Due.is("whyNot(3), the one on which it rests being planned", x.whyNot(3), 'r');
    }

    /** "no work rests on itself" */
    private static void noWorkRestsOnItself() {
        TwofrontArcade x = Streets.of(10, 12);
        x.plan(0, 1);
        x.plan(9, 1);
        Due.fails("rest(0, 0)", x, Due.BAD, () -> x.rest(0, 0));
        Due.fails("rest(9, 9)", x, Due.BAD, () -> x.rest(9, 9));
        Due.is("rest(0, 9)", x.rest(0, 9), false);
        Due.fails("rest(9, 0), by one", x, Due.BAD, () -> x.rest(9, 0));
        Due.fails("rest(0, 0), resting on another one", x, Due.BAD, () -> x.rest(0, 0));
    }

    /** "by however many": up to nine others between a work and itself, whatever their numbers. */
    private static void noWorkRestsOnItselfByHoweverMany() {
        for (int step : new int[] {1, 3, 7, 9}) {
            TwofrontArcade x = Streets.of(10, 12);
            for (int unit = 0; unit < 10; unit++) {
                x.plan(unit, 1);
            }
            for (int many = 1; many < 10; many++) {
                int last = many * step % 10;
                String chain = ", a chain of " + many + " by steps of " + step;
                Due.is("rest of " + last + chain, x.rest((many - 1) * step % 10, last), false);
                Due.fails("rest(" + last + ", 0)" + chain, x, Due.BAD, () -> x.rest(last, 0));
                Due.is("rest(0, " + last + ")" + chain, x.rest(0, last), true);
            }
        }
    }

    /** "Returns whether it did, by however many": no at first, then yes, by itself, by one and by nine. */
    private static void restAnswersWhetherItDid() {
        TwofrontArcade x = Streets.of(10, 12);
        for (int unit = 0; unit < 10; unit++) {
            x.plan(unit, 1);
        }
        for (int unit = 8; unit >= 0; unit--) {
            Due.is("rest(" + unit + ", ..), at first", x.rest(unit, unit + 1), false);
            Due.is("rest(" + unit + ", ..), then", x.rest(unit, unit + 1), true);
        }
        Due.is("rest(7, 9), by one", x.rest(7, 9), true);
        Due.is("rest(0, 9), by eight", x.rest(0, 9), true);
        Due.is("rest(0, 9), by itself too", x.rest(0, 9), true);
    }

    /** Every work rests on all with lower numbers: 45 rests, and no more are possible. */
    private static void restsFromNoneToAll() {
        TwofrontArcade x = Streets.of(10, 12);
        for (int unit = 0; unit < 10; unit++) {
            x.plan(unit, 1);
            for (int other = 0; other < unit; other++) {
                Due.is("rest(" + unit + ", " + other + ")", x.rest(unit, other), false);
            }
        }
        for (int unit = 0; unit < 10; unit++) {
            for (int other = 0; other < 10; other++) {
                int one = unit;
                int two = other;
                String call = "rest(" + unit + ", " + other + ") of all";
                if (one > two) {
                    Due.is(call, x.rest(one, two), true);
                } else {
                    Due.fails(call, x, Due.BAD, () -> x.rest(one, two));
                }
            }
        }
    }

    /** IndexOutOfBoundsException, then UnsupportedOperationException, then IllegalArgumentException. */
    private static void restThrowsTheFirst() {
        TwofrontArcade x = Streets.withWorksOn(10, 0);
        x.plan(1, 5);
        Due.fails("rest(10, 10)", x, Due.NO_SUCH, () -> x.rest(NO_UNIT, NO_UNIT));
        Due.fails("rest(2, 10), no work", x, Due.NO_SUCH, () -> x.rest(2, NO_UNIT));
        Due.fails("rest(-1, 2), no work", x, Due.NO_SUCH, () -> x.rest(-1, 2));
        Due.fails("rest(0, -1), on", x, Due.NO_SUCH, () -> x.rest(0, -1));
        Due.fails("rest(2, 2), no work", x, Due.MAY_NOT, () -> x.rest(2, 2));
        Due.fails("rest(0, 0), on", x, Due.MAY_NOT, () -> x.rest(0, 0));
        Due.is("rest(1, 0)", x.rest(1, 0), false);
        Due.fails("rest(0, 1), on, and it would rest on itself", x, Due.MAY_NOT, () -> x.rest(0, 1));
        Due.fails("rest(1, 1)", x, Due.BAD, () -> x.rest(1, 1));
    }

    // promise 6

    private static void noticeOfNoSuchUnit() {
        TwofrontArcade x = Streets.of(1, 12);
        x.plan(0, 1);
        Due.noSuch("notice(.., 7)", x, 1, unit -> x.notice(unit, 7));
        Due.is("notice(0, 7)", x.notice(0, 7), 7);
    }

    /** "if the unit has no work, or it was begun" */
    private static void aNoticeNeedsAWorkThatWasNotBegun() {
        TwofrontArcade x = Streets.of(1, 12);
        Due.fails("notice(0, 7), no work", x, Due.MAY_NOT, () -> x.notice(0, 7));
        x.plan(0, 1);
        Due.is("notice(0, 7)", x.notice(0, 7), 7);
        x.pass(7);
        Due.is("notice(0, 14), come, but not begun", x.notice(0, 14), 7);
        x.pass(7);
        x.begin(0);
        Due.fails("notice(0, 21), on", x, Due.MAY_NOT, () -> x.notice(0, 21));
        x.addCrew('d');
        x.send(0, 0);
        x.pass(1);
        Due.fails("notice(0, 22), done", x, Due.MAY_NOT, () -> x.notice(0, 22));
    }

    /** "a notice that tells a day 7 days later or more" */
    private static void aNoticeIs7DaysAheadAtLeast() {
        TwofrontArcade x = Streets.of(1, 12);
        x.plan(0, 1);
        for (int day = -1; day < 7; day++) {
            int early = day;
            Due.fails("notice(0, " + day + ") on the day 0", x, Due.BAD, () -> x.notice(0, early));
        }
        Due.is("notice(0, 7) on the day 0", x.notice(0, 7), 7);
        Due.is("notice(0, 8) on the day 0", x.notice(0, 8), 8);
        x.pass(30);
        Due.fails("notice(0, 36) on the day 30", x, Due.BAD, () -> x.notice(0, 36));
        Due.is("notice(0, 37) on the day 30", x.notice(0, 37), 7);
        Due.fails("notice(0, lowest) on the day 30", x, Due.BAD, () -> x.notice(0, Integer.MIN_VALUE));
    }

    /** "or above 999" */
    private static void aNoticeIsForTheDay999AtMost() {
        TwofrontArcade x = Streets.of(1, 12);
        x.plan(0, 1);
        Due.fails("notice(0, 1000)", x, Due.BAD, () -> x.notice(0, 1000));
        Due.fails("notice(0, highest)", x, Due.BAD, () -> x.notice(0, Integer.MAX_VALUE));
        Due.is("notice(0, 999)", x.notice(0, 999), 999);
        x.pass(1);
        Due.is("notice(0, 999) on the day 1", x.notice(0, 999), 998);
    }

    /** Both bounds at once: from the day 993 on no day is left that a notice could tell. */
    private static void theLastNoticeIsToldOnTheDay992() {
        TwofrontArcade x = Streets.of(1, 12);
        x.plan(0, 1);
        Streets.passTo(x, 992);
        Due.fails("notice(0, 998) on the day 992", x, Due.BAD, () -> x.notice(0, 998));
        Due.fails("notice(0, 1000) on the day 992", x, Due.BAD, () -> x.notice(0, 1000));
        Due.is("notice(0, 999) on the day 992", x.notice(0, 999), 7);
        x.pass(1);
        Due.fails("notice(0, 999) on the day 993", x, Due.BAD, () -> x.notice(0, 999));
        Due.fails("notice(0, 1000) on the day 993", x, Due.BAD, () -> x.notice(0, 1000));
        x.pass(5);
        Due.is("whyNot(0) on the day 998", x.whyNot(0), 'n');
        x.pass(1);
        Due.is("whyNot(0) on the day 999", x.whyNot(0), '-');
        Due.is("begin(0) on the day 999", x.begin(0), 1);
    }

    /** "in place of another one": an earlier or a later one; one that is refused takes no place. */
    private static void aNoticeIsInPlaceOfAnotherOne() {
        TwofrontArcade x = Streets.of(1, 12);
        x.plan(0, 1);
        x.notice(0, 20);
        x.notice(0, 7);
        Due.fails("notice(0, 6)", x, Due.BAD, () -> x.notice(0, 6));
        x.pass(7);
        Due.is("whyNot(0), the earlier one in place of the later one", x.whyNot(0), '-');
        x.notice(0, 15);
        Due.is("whyNot(0), a later one in place of one that has come", x.whyNot(0), 'n');
        Due.fails("notice(0, 1000)", x, Due.BAD, () -> x.notice(0, 1000));
        x.pass(7);
        Due.is("whyNot(0) on the day 14", x.whyNot(0), 'n');
        x.pass(1);
        Due.is("whyNot(0) on the day 15", x.whyNot(0), '-');
    }

    /** IndexOutOfBoundsException, then UnsupportedOperationException, then IllegalArgumentException. */
    private static void noticeThrowsTheFirst() {
        TwofrontArcade x = Streets.withWorksOn(10, 0);
        Due.fails("notice(10, 1000)", x, Due.NO_SUCH, () -> x.notice(NO_UNIT, 1000));
        Due.fails("notice(-1, 0)", x, Due.NO_SUCH, () -> x.notice(-1, 0));
        Due.fails("notice(1, 13), no work", x, Due.MAY_NOT, () -> x.notice(1, 13));
        Due.fails("notice(1, 1000), no work", x, Due.MAY_NOT, () -> x.notice(1, 1000));
        Due.fails("notice(0, 13), on", x, Due.MAY_NOT, () -> x.notice(0, 13));
        Due.fails("notice(0, 1000), on", x, Due.MAY_NOT, () -> x.notice(0, 1000));
    }
}
