/** Promises 24 to 29, each sentence that names a bound: ways out, people by weekdays, and days that go by. */
public final class BoundsOfDaysTest {
    public static void main(String[] args) {
        flowAndRoomOfNoSuchUnit();
        flowOfNone();
        flowToTheEndThatIsNearer();
        flowBehindTheUnit0IfBothAreAlikeNear();
        flowOfTheirOwnUnitToo();
        flowFromAStallAndOfOneThatIsShut();
        flowCountsWhoComesAtOnce();
        roomOf25ForEachMetre();
        roomBesideAHoarding();
        wideUpToTheLastOne();
        weekdays0To6();
        people0To999();
        people100AtFirst();
        setPeopleReturnsHowManyThereWere();
        passOf1To30Days();
        theWeekdayIsTheDayModulo7();
        notShutOnMoreDaysThanItMay();
        oneShopOfTenIsEnough();
        aDayOfComingIsOneDay();
        anOpenShopMayHaveNoDay();
        theDay999();
        passThrowsTheFirst();
        tradeIsAheadOfTheCrews();
        worksAreDoneBehindTheCrews();
        Due.end("BoundsOfDaysTest");
    }

    private static int add(TwofrontArcade x, int unit, int people) {
        return x.addShop(unit, 1, people, false, 0, 60);
    }

    // promises 24 to 26

    private static void flowAndRoomOfNoSuchUnit() {
        TwofrontArcade x = Streets.of(10, 12);
        add(x, 0, 7);
        add(x, 9, 8);
        Due.noSuch("flow", x, 10, x::flow);
        Due.noSuch("room", x, 10, x::room);
        Due.is("flow(0)", x.flow(0), 7);
        Due.is("flow(9)", x.flow(9), 8);
        Due.is("room(0)", x.room(0), 300);
        Due.is("room(9)", x.room(9), 300);
    }

    /** Without shops, or by shops without people, nobody passes. */
    private static void flowOfNone() {
        TwofrontArcade x = Streets.of(3, 4);
        for (int unit = 0; unit < 3; unit++) {
            Due.is("flow(" + unit + ") without shops", x.flow(unit), 0);
        }
        add(x, 1, 0);
        for (int unit = 0; unit < 3; unit++) {
            Due.is("flow(" + unit + ") by 0 people", x.flow(unit), 0);
        }
        Due.is("areWide() by 0 people", x.areWide(), true);
        Due.is("areWide() of a new object", new TwofrontArcade().areWide(), true);
    }

    /** "to the end that is nearer by units": from each unit of each passage. */
    private static void flowToTheEndThatIsNearer() {
        for (int units = 1; units <= 10; units++) {
            for (int from = 0; from < units; from++) {
                TwofrontArcade x = Streets.of(units, 12);
                add(x, from, 9);
                for (int unit = 0; unit < units; unit++) {
                    // to the first end they pass from + 1 units, to the last one units - from
                    boolean isPassed = from + 1 <= units - from ? unit <= from : unit >= from;
                    String call = "flow(" + unit + ") from the unit " + from + " of " + units;
                    Due.is(call, x.flow(unit), isPassed ? 9 : 0);
                }
            }
        }
    }

    /** "that behind the unit 0 if both are alike near": from the middle unit of 3, not from the next one. */
    private static void flowBehindTheUnit0IfBothAreAlikeNear() {
        TwofrontArcade x = Streets.of(3, 12);
        add(x, 1, 9);
        Due.is("flow(0) from the middle one of 3", x.flow(0), 9);
        Due.is("flow(2) from the middle one of 3", x.flow(2), 0);
        TwofrontArcade y = Streets.of(4, 12);
        add(y, 2, 9);
        Due.is("flow(0) from behind the middle of 4", y.flow(0), 0);
        Due.is("flow(3) from behind the middle of 4", y.flow(3), 9);
        TwofrontArcade z = Streets.of(9, 12);
        add(z, 4, 9);
        Due.is("flow(0) from the middle one of 9", z.flow(0), 9);
        Due.is("flow(8) from the middle one of 9", z.flow(8), 0);
        TwofrontArcade one = Streets.of(1, 12);
        add(one, 0, 9);
        Due.is("flow(0) of the only unit", one.flow(0), 9);
    }

    /** "they pass all units on their way, their own one too" */
    private static void flowOfTheirOwnUnitToo() {
        TwofrontArcade x = Streets.of(6, 12);
        add(x, 2, 9);
        add(x, 3, 8);
        int[] due = {9, 9, 9, 8, 8, 8};
        for (int unit = 0; unit < 6; unit++) {
            Due.is("flow(" + unit + ")", x.flow(unit), due[unit]);
        }
    }

    /** "The people of a shop that is 'o' or 't' go out .., from the unit 0 if the shop is on a stall" */
    private static void flowFromAStallAndOfOneThatIsShut() {
        TwofrontArcade x = Streets.of(4, 12);
        add(x, 3, 9);
        x.toStall(0);
        int[] due = {9, 0, 0, 0};
        for (int unit = 0; unit < 4; unit++) {
            Due.is("flow(" + unit + ") from a stall", x.flow(unit), due[unit]);
        }
        x.store(0);
        for (int unit = 0; unit < 4; unit++) {
            Due.is("flow(" + unit + ") of one that is shut", x.flow(unit), 0);
        }
    }

    /** "Who comes into a unit or onto a stall counts at once." */
    private static void flowCountsWhoComesAtOnce() {
        TwofrontArcade x = Streets.of(4, 12);
        add(x, 3, 9);
        x.move(0, 1);
        Due.is("flow(1), coming", x.flow(1), 9);
        Due.is("flow(3), gone", x.flow(3), 0);
        x.pass(1);
        Due.is("flow(1), there", x.flow(1), 9);
        x.toStall(0);
        Due.is("flow(0), coming onto a stall", x.flow(0), 9);
        Due.is("flow(1), gone", x.flow(1), 0);
    }

    /** "At each unit 25 for each metre of what is left of the passage may pass." */
    private static void roomOf25ForEachMetre() {
        TwofrontArcade x = new TwofrontArcade();
        for (int width = 4; width <= 12; width++) {
            x.addUnit(width);
            Due.is("room of " + width + " metres", x.room(width - 4), 25 * width);
        }
    }

    /** "The hoarding of a work that is on takes 2 metres of the passage at it." */
    private static void roomBesideAHoarding() {
        TwofrontArcade x = new TwofrontArcade();
        x.addUnit(4);
        x.addUnit(4);
        x.addUnit(12);
        x.addCrew('d');
        x.plan(0, 1);
        x.plan(2, 1);
        x.notice(0, 7);
        x.notice(2, 7);
        x.pass(7);
        Due.is("room(0), planned", x.room(0), 100);
        x.begin(0);
        x.begin(2);
        Due.is("room(0), 2 metres left", x.room(0), 50);
        Due.is("room(1), beside both", x.room(1), 100);
        Due.is("room(2), 10 metres left", x.room(2), 250);
        x.send(0, 0);
        x.pass(1);
        Due.is("room(0), done", x.room(0), 100);
        Due.is("room(2), on", x.room(2), 250);
    }

    /** "at no unit more would pass than may": as many may. */
    private static void wideUpToTheLastOne() {
        TwofrontArcade x = Streets.of(4, 4);
        add(x, 0, 99);
        add(x, 1, 1);
        Due.is("areWide(), 100 pass 100", x.areWide(), true);
        add(x, 3, 1);
        Due.fails("toStall(2), the 101st", x, Due.MAY_NOT, () -> x.toStall(2));
        x.store(0);
        Due.is("areWide(), 1 passes 100", x.areWide(), true);
    }

    // promise 27

    /** "0 to 6" */
    private static void weekdays0To6() {
        TwofrontArcade x = Streets.of(1, 12);
        Due.outOfRange("setPeople, a weekday", x, 0, 6, weekday -> x.setPeople(weekday, 5));
        Due.is("setPeople(0, 5)", x.setPeople(0, 5), 100);
        Due.is("setPeople(6, 7)", x.setPeople(6, 7), 100);
        Due.outOfRange("setPeople, a weekday and people", x, 0, 6, weekday -> x.setPeople(weekday, 1000));
    }

    /** "0 to 999" */
    private static void people0To999() {
        TwofrontArcade x = Streets.of(2, 12);
        x.addShop(0, 1, 0, false, 0, 0);
        x.addShop(1, 9, 0, false, 0, 0);
        Due.outOfRange("setPeople, people", x, 0, 999, people -> x.setPeople(0, people));
        Due.is("setPeople(0, 0)", x.setPeople(0, 0), 100);
        Due.is("setPeople(1, 999)", x.setPeople(1, 999), 100);
        x.pass(1);
        Due.is("took(0) by 0 people", x.took(0), 0);
        Due.is("took(1) by 0 people", x.took(1), 0);
        x.pass(1);
        Due.is("took(0) by 999 people", x.took(0), 999);
        Due.is("took(1) by 999 people", x.took(1), 8991);
    }

    /** "100 at first", on each weekday. */
    private static void people100AtFirst() {
        TwofrontArcade x = Streets.of(1, 12);
        x.addShop(0, 1, 0, false, 0, 0);
        for (int day = 1; day <= 7; day++) {
            x.pass(1);
            Due.is("took(0) behind " + day + " days", x.took(0), 100 * day);
        }
        for (int weekday = 0; weekday < 7; weekday++) {
            Due.is("setPeople(" + weekday + ", 1)", x.setPeople(weekday, 1), 100);
        }
    }

    private static void setPeopleReturnsHowManyThereWere() {
        TwofrontArcade x = new TwofrontArcade();
        int[] people = {0, 999, 0, 100, 1, 998, 998};
        int before = 100;
        for (int number : people) {
            Due.is("setPeople(6, " + number + ")", x.setPeople(6, number), before);
            before = number;
        }
        Due.fails("setPeople(6, 1000)", x, Due.BAD, () -> x.setPeople(6, 1000));
        Due.is("setPeople(6, 0)", x.setPeople(6, 0), 998);
        Due.is("setPeople(5, 0)", x.setPeople(5, 0), 100);
    }

    // promises 28 and 29

    /** "1 to 30" */
    private static void passOf1To30Days() {
        TwofrontArcade x = Streets.of(1, 12);
        Due.outOfRange("pass", x, 1, 30, x::pass);
        Due.is("pass(1)", x.pass(1), 1);
        Due.is("day() behind 1 day", x.day(), 1);
        Due.is("pass(30)", x.pass(30), 31);
        Due.is("day() behind 31 days", x.day(), 31);
        Due.outOfRange("pass, on the day 31,", x, 1, 30, x::pass);
    }

    /** "The weekday is the day modulo 7": people and quiet days come again behind the weekday 6. */
    private static void theWeekdayIsTheDayModulo7() {
        TwofrontArcade x = Streets.of(2, 12);
        x.addWall(0, 1);
        x.addCrew('n');
        x.addShop(0, 1, 0, false, 1 | 64, 0);
        int[] people = {1, 2, 4, 8, 16, 32, 64};
        for (int weekday = 0; weekday < 7; weekday++) {
            x.setPeople(weekday, people[weekday]);
        }
        Streets.beginAt(x, 60, 1);
        x.find(1, 30);
        x.send(0, 1);
        Due.is("took(0) by the first week", x.took(0), 127);
        long due = 127;
        for (int day = 7; day < 29; day++) {
            int weekday = day % 7;
            Due.is("canWork(0) on the day " + day, x.canWork(0), weekday != 0 && weekday != 6);
            x.pass(1);
            // seen by 80
            due += people[weekday] * 80 / 100;
            Due.is("took(0) behind the day " + day, x.took(0), due);
        }
        // 22 days, of which the days 7, 13, 14, 20, 21, 27 and 28 are quiet
        Due.is("left(1)", x.left(1), 90 - 15);
        Due.is("lostDays(1, 'q')", x.lostDays(1, 'q'), 7);
    }

    /** "Days go by only as long as no shop would be shut on more days than it may." */
    private static void notShutOnMoreDaysThanItMay() {
        for (int days = 1; days < 30; days++) {
            int may = days;
            TwofrontArcade x = Streets.of(1, 12);
            x.addShop(0, 1, 0, false, 0, may);
            x.store(0);
            Due.fails("pass(" + (may + 1) + "), shut on " + may + " at most", x, Due.MAY_NOT, () -> x.pass(may + 1));
            Due.is("pass(" + may + ")", x.pass(may), may);
            Due.is("mayBeShut(0)", x.mayBeShut(0), 0);
            Due.fails("pass(1), no day left", x, Due.MAY_NOT, () -> x.pass(1));
        }
        TwofrontArcade y = Streets.of(1, 12);
        y.addShop(0, 1, 0, false, 0, 60);
        y.store(0);
        Due.is("pass(30) of 60", y.pass(30), 30);
        Due.is("pass(30) of 30", y.pass(30), 60);
        Due.fails("pass(1) of 0", y, Due.MAY_NOT, () -> y.pass(1));
        Due.is("lost(0, 's') on 60 days", y.lost(0, 's'), 6000);
    }

    /** The last shop of ten stops the days as well as the first one. */
    private static void oneShopOfTenIsEnough() {
        for (int one = 0; one < 10; one++) {
            TwofrontArcade x = Streets.of(10, 12);
            for (int shop = 0; shop < 10; shop++) {
                x.addShop(shop, 1, 0, false, 0, shop == one ? 2 : 3);
                x.store(shop);
            }
            Due.fails("pass(3), the shop " + one + " on 2 at most", x, Due.MAY_NOT, () -> x.pass(3));
            Due.is("pass(2), the shop " + one + " on 2 at most", x.pass(2), 2);
            Due.fails("pass(1), the shop " + one + " on none more", x, Due.MAY_NOT, () -> x.pass(1));
            x.move(one == 0 ? 1 : 0, 5);
            Due.fails("pass(1), another one coming", x, Due.MAY_NOT, () -> x.pass(1));
        }
    }

    /** "needs the next day for that": of many days the first one alone. */
    private static void aDayOfComingIsOneDay() {
        TwofrontArcade x = Streets.of(2, 12);
        x.addShop(0, 1, 0, false, 0, 2);
        x.toStall(0);
        Due.is("pass(30), coming", x.pass(30), 30);
        Due.is("mayBeShut(0)", x.mayBeShut(0), 1);
        x.move(0, 1);
        Due.is("pass(2), coming with its last day", x.pass(2), 32);
        Due.is("mayBeShut(0)", x.mayBeShut(0), 0);
        Due.is("pass(30), open without a day", x.pass(30), 62);
        Due.is("took(0)", x.took(0) + x.lost(0, 'm'), 6000);
        Due.is("lost(0, 's')", x.lost(0, 's'), 200);
    }

    private static void anOpenShopMayHaveNoDay() {
        TwofrontArcade x = Streets.of(1, 12);
        x.addShop(0, 1, 0, false, 0, 0);
        Due.is("pass(30), 0 days", x.pass(30), 30);
        Due.is("took(0)", x.took(0), 3000);
    }

    /** "if it would be above 999" */
    private static void theDay999() {
        TwofrontArcade x = Streets.of(1, 12);
        x.addShop(0, 1, 0, false, 0, 60);
        Streets.passTo(x, 969);
        TwofrontArcade y = Streets.of(1, 12);
        Streets.passTo(y, 970);
        Due.fails("pass(30) on the day 970", y, Due.FULL, () -> y.pass(30));
        Due.is("pass(29) on the day 970", y.pass(29), 999);
        Due.is("pass(30) on the day 969", x.pass(30), 999);
        Due.fails("pass(1) on the day 999", x, Due.FULL, () -> x.pass(1));
        Due.fails("pass(30) on the day 999", x, Due.FULL, () -> x.pass(30));
        Due.is("day() at last", x.day(), 999);
        Due.is("took(0) at last", x.took(0), 99900);
        Due.is("store(0) at last", x.store(0), 60);
    }

    /** IllegalArgumentException, then UnsupportedOperationException, then IllegalStateException. */
    private static void passThrowsTheFirst() {
        TwofrontArcade x = Streets.of(1, 12);
        x.addShop(0, 1, 0, false, 0, 5);
        x.store(0);
        Due.outOfRange("pass, shut,", x, 1, 30, x::pass);
        x.move(0, 0);
        Streets.passTo(x, 997);
        Due.outOfRange("pass on the day 997", x, 1, 30, x::pass);
        Due.fails("pass(3) on the day 997", x, Due.FULL, () -> x.pass(3));
        x.store(0);
        Due.fails("pass(3) on the day 997, shut on 4 at most", x, Due.FULL, () -> x.pass(3));
        Due.fails("pass(4) on the day 997, shut on 4 at most", x, Due.FULL, () -> x.pass(4));
        Due.fails("pass(5) on the day 997, shut on 4 at most", x, Due.MAY_NOT, () -> x.pass(5));
        Due.outOfRange("pass on the day 997, shut,", x, 1, 30, x::pass);
        Due.is("pass(2) on the day 997", x.pass(2), 999);
    }

    /** "all shops trade first, then all crews work": the hoarding and the dust of the last day count. */
    private static void tradeIsAheadOfTheCrews() {
        TwofrontArcade x = Streets.of(2, 12);
        x.addWall(0, 1);
        x.addShop(0, 1, 0, true, 0, 0);
        Streets.beginAt(x, 1, 1);
        x.addCrew('d');
        x.send(0, 1);
        x.pass(1);
        Due.is("work(1)", x.work(1), 'd');
        Due.is("lost(0, 'h') on the last day", x.lost(0, 'h'), 20);
        Due.is("lost(0, 'd') on the last day", x.lost(0, 'd'), 40);
        x.pass(1);
        Due.is("lost(0, 'h') on the next day", x.lost(0, 'h'), 20);
        Due.is("lost(0, 'd') on the next day", x.lost(0, 'd'), 40);
    }

    /** "then works without days left are done, then strikes .. go on": each of many days by itself. */
    private static void worksAreDoneBehindTheCrews() {
        TwofrontArcade x = Streets.of(2, 12);
        Streets.beginAt(x, 3, 0);
        x.addCrew('d');
        x.send(0, 0);
        x.strike(2);
        x.pass(10);
        Due.is("lostDays(0, 's') of 10 days", x.lostDays(0, 's'), 2);
        Due.is("lostDays(0, 'c') of 10 days", x.lostDays(0, 'c'), 0);
        Due.is("work(0) behind 10 days", x.work(0), 'd');
        Streets.beginAt(x, 3, 1);
        x.strike(1);
        x.pass(5);
        Due.is("lostDays(1, 's') of 5 days", x.lostDays(1, 's'), 1);
        Due.is("lostDays(1, 'c') of 5 days", x.lostDays(1, 'c'), 4);
        Due.is("left(1) behind 5 days", x.left(1), 3);
    }
}
