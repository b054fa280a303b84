/** Promises 12 to 20, each sentence that names a bound: shops, where they are, how they come and how they are shut. */
public final class BoundsOfShopsTest {
    private static final int NO_UNIT = 10;

    public static void main(String[] args) {
        addShopOfNoSuchUnit();
        aPullOf1To9();
        peopleOf0To99();
        quietDaysOf0To127();
        mayBeShutOn0To60Days();
        atMost10Shops();
        addShopWhereNoneOtherIs();
        addShopWhereNoWorkIsOn();
        addShopByWaysOut();
        addShopThrowsTheFirst();
        noSuchShop();
        unitOfNone();
        homeIsTheUnitAtFirst();
        moveOfNoSuchShopOrUnit();
        moveWhereNoneOtherIs();
        moveWhereNoWorkIsOn();
        moveByWaysOut();
        moveNeedsADay();
        moveThrowsTheFirst();
        twoStalls();
        toStallOnce();
        toStallByWaysOut();
        toStallNeedsADay();
        storeOnce();
        storeNeedsADay();
        comesOnTheNextDayAlone();
        mayBeShutGoesDownTo0();
        Due.end("BoundsOfShopsTest");
    }

    private static int add(TwofrontArcade x, int unit, int people, int days) {
        return x.addShop(unit, 1, people, false, 0, days);
    }

    // promise 12

    private static void addShopOfNoSuchUnit() {
        TwofrontArcade x = Streets.of(10, 12);
        Due.noSuch("addShop(..)", x, 10, unit -> add(x, unit, 0, 0));
        Due.is("addShop(9, ..)", add(x, 9, 0, 0), 0);
        Due.is("addShop(0, ..)", add(x, 0, 0, 0), 1);
    }

    /** "a pull of 1 to 9" */
    private static void aPullOf1To9() {
        TwofrontArcade x = Streets.of(2, 12);
        Due.outOfRange("addShop, a pull", x, 1, 9, pull -> x.addShop(0, pull, 0, false, 0, 0));
        Due.is("addShop(0, 1, ..)", x.addShop(0, 1, 0, false, 0, 0), 0);
        Due.is("addShop(1, 9, ..)", x.addShop(1, 9, 0, false, 0, 0), 1);
        x.pass(1);
        Due.is("took(0) by a pull of 1", x.took(0), 100);
        Due.is("took(1) by a pull of 9", x.took(1), 900);
    }

    /** "0 to 99 people" */
    private static void peopleOf0To99() {
        TwofrontArcade x = Streets.of(2, 12);
        Due.outOfRange("addShop, people", x, 0, 99, people -> x.addShop(0, 1, people, false, 0, 0));
        Due.is("addShop(0, 1, 0, ..)", x.addShop(0, 1, 0, false, 0, 0), 0);
        Due.is("addShop(1, 1, 99, ..)", x.addShop(1, 1, 99, false, 0, 0), 1);
        Due.is("flow(0) of 0", x.flow(0), 0);
        Due.is("flow(1) of 99", x.flow(1), 99);
    }

    /** "quiet days, as bits of the weekdays 0 to 6": 0 is no day, 127 all of them. */
    private static void quietDaysOf0To127() {
        for (int quiet : new int[] {0, 127}) {
            TwofrontArcade x = Streets.of(2, 12);
            x.addWall(0, 1);
            Due.outOfRange("addShop, quiet days", x, 0, 127, days -> x.addShop(0, 1, 0, false, days, 0));
            Due.is("addShop(0, 1, 0, false, " + quiet + ", 0)", x.addShop(0, 1, 0, false, quiet, 0), 0);
            Streets.beginAt(x, 60, 1);
            x.addCrew('n');
            x.send(0, 1);
            for (int weekday = 0; weekday < 7; weekday++) {
                Due.is("canWork(0) on the weekday " + weekday + " of " + quiet, x.canWork(0), quiet == 0);
                x.pass(1);
            }
        }
    }

    /** "and 0 to 60 days that it may be shut" */
    private static void mayBeShutOn0To60Days() {
        TwofrontArcade x = Streets.of(2, 12);
        Due.outOfRange("addShop, days to be shut", x, 0, 60, days -> add(x, 0, 0, days));
        Due.is("addShop(0, .., 0)", add(x, 0, 0, 0), 0);
        Due.is("addShop(1, .., 60)", add(x, 1, 0, 60), 1);
        Due.is("mayBeShut(0) of 0", x.mayBeShut(0), 0);
        Due.is("mayBeShut(1) of 60", x.mayBeShut(1), 60);
    }

    /** "At most 10 are numbered from 0" */
    private static void atMost10Shops() {
        TwofrontArcade x = Streets.of(10, 12);
        for (int shop = 0; shop < 10; shop++) {
            Due.noSuch("state, " + shop + " shops,", x, shop, x::state);
            // each is stored, so that the next one finds the unit 9 free
            Due.is("addShop, " + shop + " shops", add(x, 9, 0, 9), shop);
            x.store(shop);
        }
        Due.fails("addShop, 10 shops", x, Due.FULL, () -> add(x, 9, 0, 9));
        Due.fails("addShop(0, ..), 10 shops", x, Due.FULL, () -> add(x, 0, 99, 60));
        Due.noSuch("state, 10 shops,", x, 10, x::state);
        Due.is("state(9)", x.state(9), 's');
    }

    /** "if a shop .. is in the unit": one on a stall or shut is in none. */
    private static void addShopWhereNoneOtherIs() {
        TwofrontArcade x = Streets.of(2, 12);
        add(x, 0, 0, 9);
        Due.fails("addShop(0, ..), a shop there", x, Due.MAY_NOT, () -> add(x, 0, 0, 9));
        x.move(0, 1);
        Due.fails("addShop(1, ..), a shop coming there", x, Due.MAY_NOT, () -> add(x, 1, 0, 9));
        Due.is("addShop(0, ..), the shop in another unit", add(x, 0, 0, 9), 1);
        x.toStall(0);
        Due.is("addShop(1, ..), the shop on a stall", add(x, 1, 0, 9), 2);
        x.store(1);
        Due.is("addShop(0, ..), the shop shut", add(x, 0, 0, 9), 3);
    }

    /** "or a work that is on is in the unit": a planned one may be there, or one that is done. */
    private static void addShopWhereNoWorkIsOn() {
        TwofrontArcade x = Streets.of(3, 12);
        Streets.beginAt(x, 1, 0);
        x.plan(1, 5);
        Due.fails("addShop(0, ..), on", x, Due.MAY_NOT, () -> add(x, 0, 0, 9));
        Due.is("addShop(1, ..), planned", add(x, 1, 0, 9), 0);
        x.addCrew('d');
        x.send(0, 0);
        x.pass(1);
        Due.is("addShop(0, ..), done", add(x, 0, 0, 9), 1);
    }

    /** "or the ways out would be too narrow": 25 people for each metre, and not one more. */
    private static void addShopByWaysOut() {
        TwofrontArcade x = Streets.of(4, 4);
        add(x, 0, 1, 9);
        add(x, 3, 2, 9);
        Due.is("addShop(1, ..), 100 pass the unit 0", add(x, 1, 99, 9), 2);
        Due.fails("addShop(2, ..), 101 pass the unit 3", x, Due.MAY_NOT, () -> add(x, 2, 99, 9));
        Due.is("addShop(2, ..), 100 pass the unit 3", add(x, 2, 98, 9), 3);
        Due.is("flow(0)", x.flow(0), 100);
        Due.is("flow(3)", x.flow(3), 100);

        TwofrontArcade y = Streets.of(4, 4);
        Streets.beginAt(y, 9, 0);
        Due.fails("addShop(1, ..), 51 pass the hoarding", y, Due.MAY_NOT, () -> add(y, 1, 51, 9));
        Due.is("addShop(1, ..), 50 pass the hoarding", add(y, 1, 50, 9), 0);
        Due.is("addShop(2, ..), 99 by the other end", add(y, 2, 99, 9), 1);
    }

    /** In the order of the exceptions that the document lists. */
    private static void addShopThrowsTheFirst() {
        TwofrontArcade x = Streets.of(10, 12);
        for (int unit = 0; unit < 10; unit++) {
            add(x, unit, 0, 9);
        }
        Due.fails("addShop(10, 0, ..), 10 shops", x, Due.NO_SUCH, () -> x.addShop(NO_UNIT, 0, -1, false, -1, -1));
        Due.fails("addShop(-1, 10, ..), 10 shops", x, Due.NO_SUCH, () -> x.addShop(-1, 10, 100, false, 128, 61));
        Due.fails("addShop(0, 0, ..), 10 shops", x, Due.BAD, () -> x.addShop(0, 0, 0, false, 0, 0));
        Due.fails("addShop, 100 people, 10 shops", x, Due.BAD, () -> x.addShop(0, 1, 100, false, 0, 0));
        Due.fails("addShop, 128, 10 shops", x, Due.BAD, () -> x.addShop(0, 1, 0, false, 128, 0));
        Due.fails("addShop, 61 days, 10 shops", x, Due.BAD, () -> x.addShop(0, 1, 0, false, 0, 61));
        Due.fails("addShop(0, ..), a shop there, 10 shops", x, Due.MAY_NOT, () -> add(x, 0, 0, 0));
        x.store(0);
        Due.fails("addShop(0, ..), 10 shops", x, Due.FULL, () -> add(x, 0, 0, 0));
        TwofrontArcade y = Streets.of(10, 4);
        for (int unit = 0; unit < 10; unit++) {
            add(y, unit, unit == 1 ? 99 : 1, 9);
            y.store(unit);
        }
        y.move(1, 1);
        Due.fails("addShop(0, ..), too narrow, 10 shops", y, Due.MAY_NOT, () -> add(y, 0, 2, 0));
        Due.fails("addShop(0, ..), wide enough, 10 shops", y, Due.FULL, () -> add(y, 0, 1, 0));
    }

    // promises 13 to 15

    private static void noSuchShop() {
        TwofrontArcade x = Streets.of(10, 12);
        for (int shop = 0; shop < 10; shop++) {
            add(x, shop, 0, 60);
        }
        Due.noSuch("state", x, 10, x::state);
        Due.noSuch("unitOf", x, 10, x::unitOf);
        Due.noSuch("homeOf", x, 10, x::homeOf);
        Due.noSuch("move(.., 0)", x, 10, shop -> x.move(shop, 0));
        Due.noSuch("toStall", x, 10, x::toStall);
        Due.noSuch("store", x, 10, x::store);
        Due.noSuch("comes", x, 10, x::comes);
        Due.noSuch("mayBeShut", x, 10, x::mayBeShut);
        for (int shop = 0; shop < 10; shop += 9) {
            Due.is("state(" + shop + ")", x.state(shop), 'o');
            Due.is("unitOf(" + shop + ")", x.unitOf(shop), shop);
            Due.is("homeOf(" + shop + ")", x.homeOf(shop), shop);
            Due.is("comes(" + shop + ")", x.comes(shop), false);
            Due.is("mayBeShut(" + shop + ")", x.mayBeShut(shop), 60);
            Due.is("toStall(" + shop + ")", x.toStall(shop), 1);
            Due.is("store(" + shop + ")", x.store(shop), 60);
            Due.is("move(" + shop + ", ..)", x.move(shop, shop), 60);
        }
    }

    /** "if it is in none": on a stall, or shut. */
    private static void unitOfNone() {
        TwofrontArcade x = Streets.of(2, 12);
        add(x, 0, 0, 9);
        Due.is("unitOf(0) at first", x.unitOf(0), 0);
        x.toStall(0);
        Due.fails("unitOf(0) on a stall", x, Due.NONE, () -> x.unitOf(0));
        x.store(0);
        Due.fails("unitOf(0) shut", x, Due.NONE, () -> x.unitOf(0));
        x.move(0, 1);
        Due.is("unitOf(0) coming", x.unitOf(0), 1);
        Due.fails("unitOf(1), none", x, Due.NO_SUCH, () -> x.unitOf(1));
    }

    /** "the unit that a shop had at first", wherever it is. */
    private static void homeIsTheUnitAtFirst() {
        TwofrontArcade x = Streets.of(10, 12);
        add(x, 9, 0, 60);
        add(x, 0, 0, 60);
        x.move(0, 5);
        Due.is("homeOf(0) in another unit", x.homeOf(0), 9);
        x.toStall(1);
        Due.is("homeOf(1) on a stall", x.homeOf(1), 0);
        x.move(0, 0);
        x.store(1);
        Due.is("homeOf(0) in the home of another one", x.homeOf(0), 9);
        Due.is("homeOf(1) shut", x.homeOf(1), 0);
        x.pass(1);
        Due.is("homeOf(0) on the next day", x.homeOf(0), 9);
    }

    // promise 16

    private static void moveOfNoSuchShopOrUnit() {
        TwofrontArcade x = Streets.of(10, 12);
        add(x, 4, 0, 9);
        Due.noSuch("move(.., 5)", x, 1, shop -> x.move(shop, 5));
        Due.noSuch("move(0, ..)", x, 10, unit -> x.move(0, unit));
        Due.is("move(0, 9)", x.move(0, 9), 9);
        Due.is("move(0, 0)", x.move(0, 0), 9);
    }

    /** "if a shop, this one too, .. is there" */
    private static void moveWhereNoneOtherIs() {
        TwofrontArcade x = Streets.of(2, 12);
        add(x, 0, 0, 9);
        add(x, 1, 0, 9);
        Due.fails("move(0, 1), another one there", x, Due.MAY_NOT, () -> x.move(0, 1));
        Due.fails("move(0, 0), this one there", x, Due.MAY_NOT, () -> x.move(0, 0));
        x.toStall(1);
        Due.is("move(0, 1), the other one on a stall", x.move(0, 1), 9);
        Due.fails("move(0, 1), this one coming there", x, Due.MAY_NOT, () -> x.move(0, 1));
        Due.is("move(1, 0), which this one left", x.move(1, 0), 9);
        x.store(0);
        Due.is("move(1, 1), the other one shut", x.move(1, 1), 9);
        Due.fails("move(0, 1), the other one coming there", x, Due.MAY_NOT, () -> x.move(0, 1));
        Due.is("move(0, 0) from being shut", x.move(0, 0), 9);
    }

    /** "or a work that is on is there": a planned one may be there, or one that is done. */
    private static void moveWhereNoWorkIsOn() {
        TwofrontArcade x = Streets.of(4, 12);
        add(x, 3, 0, 9);
        Streets.beginAt(x, 1, 0);
        x.plan(1, 5);
        Due.fails("move(0, 0), on", x, Due.MAY_NOT, () -> x.move(0, 0));
        Due.is("move(0, 1), planned", x.move(0, 1), 9);
        x.addCrew('d');
        x.send(0, 0);
        x.pass(1);
        Due.is("move(0, 0), done", x.move(0, 0), 8);
    }

    /** "the ways out would be too narrow": its own people, who leave the old place, are not counted twice. */
    private static void moveByWaysOut() {
        TwofrontArcade x = Streets.of(4, 4);
        add(x, 0, 2, 9);
        add(x, 3, 99, 9);
        add(x, 2, 1, 9);
        Due.fails("move(1, 1), 101 pass the unit 0", x, Due.MAY_NOT, () -> x.move(1, 1));
        Due.is("move(2, 1), 3 pass the unit 0", x.move(2, 1), 9);
        Due.is("move(1, 2), 99 pass the unit 3", x.move(1, 2), 9);
        Due.is("move(2, 3), 100 pass the unit 3", x.move(2, 3), 9);
        Due.fails("move(0, 3), another one there", x, Due.MAY_NOT, () -> x.move(0, 3));
        x.store(2);
        Due.fails("move(0, 3), 101 pass the unit 3", x, Due.MAY_NOT, () -> x.move(0, 3));
        Due.is("move(2, 3) from being shut, 100 pass the unit 3", x.move(2, 3), 9);
        x.store(1);
        x.move(2, 2);
        Due.fails("move(1, 1) from being shut, 101 pass the unit 0", x, Due.MAY_NOT, () -> x.move(1, 1));
        Due.is("move(1, 3) from being shut, 100 pass the unit 3", x.move(1, 3), 9);

        TwofrontArcade y = Streets.of(4, 4);
        add(y, 3, 51, 9);
        add(y, 2, 49, 9);
        Streets.beginAt(y, 9, 0);
        Due.fails("move(0, 1), 51 pass the hoarding", y, Due.MAY_NOT, () -> y.move(0, 1));
        Due.is("move(1, 1), 49 pass the hoarding", y.move(1, 1), 9);
    }

    /** "or it may not be shut for a day": 1 day is enough, 0 is not; "Returns how many days it may still be shut". */
    private static void moveNeedsADay() {
        TwofrontArcade x = Streets.of(3, 12);
        add(x, 0, 0, 0);
        add(x, 1, 0, 1);
        Due.fails("move(0, 2), 0 days", x, Due.MAY_NOT, () -> x.move(0, 2));
        Due.is("move(1, 2), 1 day", x.move(1, 2), 1);
        Due.is("move(1, 1), 1 day, on the same day", x.move(1, 1), 1);
        x.pass(1);
        Due.fails("move(1, 2), no day left", x, Due.MAY_NOT, () -> x.move(1, 2));
        Due.is("mayBeShut(1)", x.mayBeShut(1), 0);
    }

    private static void moveThrowsTheFirst() {
        TwofrontArcade x = Streets.of(10, 12);
        add(x, 0, 0, 0);
        Due.fails("move(1, 10)", x, Due.NO_SUCH, () -> x.move(1, NO_UNIT));
        Due.fails("move(0, 10), 0 days", x, Due.NO_SUCH, () -> x.move(0, NO_UNIT));
        Due.fails("move(1, 0), a shop there", x, Due.NO_SUCH, () -> x.move(1, 0));
        Due.fails("move(-1, 0), a shop there", x, Due.NO_SUCH, () -> x.move(-1, 0));
    }

    // promise 17

    /** "'t' on one of 2 stalls"; "Returns how many stalls are free then". */
    private static void twoStalls() {
        TwofrontArcade x = Streets.of(4, 12);
        for (int shop = 0; shop < 4; shop++) {
            add(x, shop, 0, 60);
        }
        Due.is("toStall(3), both free", x.toStall(3), 1);
        Due.is("toStall(0), one free", x.toStall(0), 0);
        Due.fails("toStall(1), none free", x, Due.MAY_NOT, () -> x.toStall(1));
        Due.fails("toStall(2), none free", x, Due.MAY_NOT, () -> x.toStall(2));
        x.pass(1);
        Due.fails("toStall(1), none free on the next day", x, Due.MAY_NOT, () -> x.toStall(1));
        x.move(3, 3);
        Due.is("toStall(1), one left by coming into a unit", x.toStall(1), 0);
        x.store(0);
        x.store(1);
        Due.is("toStall(2), both left by being shut", x.toStall(2), 1);
    }

    /** "if it is on one" */
    private static void toStallOnce() {
        TwofrontArcade x = Streets.of(2, 12);
        add(x, 0, 0, 9);
        x.toStall(0);
        Due.fails("toStall(0), coming", x, Due.MAY_NOT, () -> x.toStall(0));
        x.pass(1);
        Due.fails("toStall(0), there", x, Due.MAY_NOT, () -> x.toStall(0));
        x.store(0);
        Due.is("toStall(0), shut", x.toStall(0), 1);
    }

    /** "the ways out would be too narrow": those of a stall pass the unit 0. */
    private static void toStallByWaysOut() {
        TwofrontArcade x = Streets.of(4, 4);
        add(x, 0, 2, 9);
        add(x, 3, 99, 9);
        add(x, 2, 1, 9);
        Due.fails("toStall(1), 101 pass the unit 0", x, Due.MAY_NOT, () -> x.toStall(1));
        Due.is("toStall(0), its own people not twice", x.toStall(0), 1);
        x.store(0);
        Due.is("toStall(2), 1 passes the unit 0", x.toStall(2), 1);
        Due.is("toStall(1), 100 pass the unit 0", x.toStall(1), 0);
        x.store(2);
        Due.fails("toStall(0), 101 pass the unit 0", x, Due.MAY_NOT, () -> x.toStall(0));

        TwofrontArcade y = Streets.of(4, 4);
        add(y, 3, 51, 9);
        add(y, 2, 49, 9);
        add(y, 1, 1, 9);
        Streets.beginAt(y, 9, 0);
        Due.fails("toStall(0), 52 pass the hoarding", y, Due.MAY_NOT, () -> y.toStall(0));
        Due.is("toStall(1), 50 pass the hoarding", y.toStall(1), 1);
    }

    /** "or it may not be shut for a day" */
    private static void toStallNeedsADay() {
        TwofrontArcade x = Streets.of(2, 12);
        add(x, 0, 0, 0);
        add(x, 1, 0, 1);
        Due.fails("toStall(0), 0 days", x, Due.MAY_NOT, () -> x.toStall(0));
        Due.is("toStall(1), 1 day", x.toStall(1), 1);
        x.pass(1);
        Due.fails("move(1, 1), no day left", x, Due.MAY_NOT, () -> x.move(1, 1));
        TwofrontArcade y = Streets.of(2, 12);
        add(y, 0, 0, 1);
        y.move(0, 1);
        y.pass(1);
        Due.fails("toStall(0), no day left", y, Due.MAY_NOT, () -> y.toStall(0));
    }

    // promise 18

    /** "if it is shut" */
    private static void storeOnce() {
        TwofrontArcade x = Streets.of(2, 12);
        add(x, 0, 0, 9);
        Due.is("store(0) in a unit", x.store(0), 9);
        Due.fails("store(0), shut", x, Due.MAY_NOT, () -> x.store(0));
        x.pass(1);
        Due.fails("store(0), shut for a day", x, Due.MAY_NOT, () -> x.store(0));
        x.toStall(0);
        Due.is("store(0) on a stall", x.store(0), 8);
    }

    /** "or may not be shut for a day" */
    private static void storeNeedsADay() {
        TwofrontArcade x = Streets.of(2, 12);
        add(x, 0, 0, 0);
        add(x, 1, 0, 1);
        Due.fails("store(0), 0 days", x, Due.MAY_NOT, () -> x.store(0));
        Due.is("store(1), 1 day", x.store(1), 1);
        Due.is("move(1, 1), 1 day, on the same day", x.move(1, 1), 1);
        x.pass(1);
        Due.fails("store(1), no day left", x, Due.MAY_NOT, () -> x.store(1));
    }

    // promises 19 and 20

    /** "needs the next day for that, and trades as one that is shut on it": on one day, however many go by. */
    private static void comesOnTheNextDayAlone() {
        TwofrontArcade x = Streets.of(3, 12);
        add(x, 0, 0, 60);
        add(x, 1, 0, 60);
        Due.is("comes(0) at first", x.comes(0), false);
        x.move(0, 2);
        x.toStall(1);
        Due.is("comes(0), into a unit", x.comes(0), true);
        Due.is("comes(1), onto a stall", x.comes(1), true);
        x.pass(30);
        Due.is("comes(0) behind 30 days", x.comes(0), false);
        Due.is("comes(1) behind 30 days", x.comes(1), false);
        Due.is("lost(0, 's') behind 30 days", x.lost(0, 's'), 100);
        Due.is("lost(1, 's') behind 30 days", x.lost(1, 's'), 100);
        x.store(0);
        Due.is("comes(0), shut", x.comes(0), false);
    }

    /** "A day on which a shop is shut is one less that it may be shut": from 60 to 0. */
    private static void mayBeShutGoesDownTo0() {
        TwofrontArcade x = Streets.of(3, 12);
        add(x, 0, 0, 60);
        x.move(0, 1);
        Due.is("mayBeShut(0), coming", x.mayBeShut(0), 60);
        x.pass(1);
        Due.is("mayBeShut(0) behind the day of coming", x.mayBeShut(0), 59);
        x.pass(1);
        Due.is("mayBeShut(0) behind a day of trade", x.mayBeShut(0), 59);
        x.store(0);
        x.pass(30);
        Due.is("mayBeShut(0) behind 30 days", x.mayBeShut(0), 29);
        x.pass(28);
        Due.is("mayBeShut(0) behind 58 days", x.mayBeShut(0), 1);
        Due.fails("pass(2), 1 day left", x, Due.MAY_NOT, () -> x.pass(2));
        x.pass(1);
        Due.is("mayBeShut(0) behind 59 days", x.mayBeShut(0), 0);
        Due.fails("pass(1), no day left", x, Due.MAY_NOT, () -> x.pass(1));
        Due.fails("move(0, 0), shut, no day left", x, Due.MAY_NOT, () -> x.move(0, 0));
        Due.fails("toStall(0), shut, no day left", x, Due.MAY_NOT, () -> x.toStall(0));
        Due.is("isSound(), no day left", x.isSound(), true);
    }
}
