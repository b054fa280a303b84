/** Promises 35 and 36, each sentence that names a bound: how long the shortest programme is, and its begins. */
public final class BoundsOfProgrammesTest {
    public static void main(String[] args) {
        noWorks();
        oneWorkOf1And60Days();
        atMost5NotBegun();
        worksOnAreNoneOfThe5();
        doneWorksAreNoneOfThe5();
        noMoreThanTwoAtOnce();
        noneBesideAnotherOneBeyondAWall();
        noneAheadOfTheEndOfOneOnWhichItRests();
        restsOnOneThatIsOn();
        worksOnGoOnAtOnce();
        eachWithoutABreak();
        theLongestOfAll();
        theLowestUnitFirst();
        noticesAndShopsDoNotCount();
        startInOfNoSuchUnit();
        startInOfNoWorkThatWasNotBegun();
        startInThrowsTheFirst();
        daysFromNowOn();
        Due.end("BoundsOfProgrammesTest");
    }

    /** Works of so many days at the units from 0 on; no work for 0 days. */
    private static TwofrontArcade planned(int... days) {
        TwofrontArcade x = Streets.of(10, 12);
        for (int unit = 0; unit < days.length; unit++) {
            if (days[unit] > 0) {
                x.plan(unit, days[unit]);
            }
        }
        return x;
    }

    /** The starts that are due at the units from 0 on; -1 where no work is that was not begun. */
    private static void programme(String what, TwofrontArcade x, int days, int... starts) {
        Due.is("shortest(), " + what, x.shortest(), days);
        for (int i = 0; i < starts.length; i++) {
            int unit = i;
            if (starts[unit] >= 0) {
                Due.is("startIn(" + unit + "), " + what, x.startIn(unit), starts[unit]);
            } else {
                Due.fails("startIn(" + unit + "), " + what, x, Due.NONE, () -> x.startIn(unit));
            }
        }
    }

    /** Nothing is to do: no units, no works, or all of them done. */
    private static void noWorks() {
        Due.is("shortest() of a new object", new TwofrontArcade().shortest(), 0);
        programme("no works", planned(), 0, -1, -1);
        TwofrontArcade x = Streets.withWorksOn(2, 0);
        x.addCrew('d');
        x.send(0, 0);
        x.pass(8);
        programme("one on with its last day", x, 1, -1, -1);
        x.pass(1);
        programme("one done", x, 0, -1, -1);
    }

    private static void oneWorkOf1And60Days() {
        programme("one of 1 day", planned(1), 1, 0);
        programme("one of 60 days", planned(60), 60, 0);
        programme("one of 60 days at the last unit", planned(0, 0, 0, 0, 0, 0, 0, 0, 0, 60), 60,
                -1, -1, -1, -1, -1, -1, -1, -1, -1, 0);
    }

    /** "5 at most of these"; "if more than 5 works were not begun" */
    private static void atMost5NotBegun() {
        TwofrontArcade x = planned(1, 1, 1, 1, 1);
        programme("five", x, 3, 0, 0, 1, 1, 2);
        x.plan(9, 1);
        Due.fails("shortest() of six", x, Due.MAY_NOT, x::shortest);
        for (int i = 0; i < 10; i++) {
            int unit = i;
            Due.fails("startIn(" + unit + ") of six", x, Due.MAY_NOT, () -> x.startIn(unit));
        }
        for (int unit = 5; unit < 9; unit++) {
            x.plan(unit, 1);
        }
        Due.fails("shortest() of ten", x, Due.MAY_NOT, x::shortest);
        Due.fails("startIn(0) of ten", x, Due.MAY_NOT, () -> x.startIn(0));
    }

    private static void worksOnAreNoneOfThe5() {
        TwofrontArcade x = Streets.withWorksOn(10, 8, 9);
        for (int unit = 0; unit < 5; unit++) {
            x.plan(unit, 1);
        }
        programme("five and two on", x, 12, 9, 9, 10, 10, 11, -1, -1, -1, -1, -1);
        x.plan(5, 1);
        Due.fails("shortest() of six and two on", x, Due.MAY_NOT, x::shortest);
        Due.fails("startIn(9) of six and two on", x, Due.MAY_NOT, () -> x.startIn(9));
        x.notice(5, 14);
        x.addCrew('d');
        x.send(0, 8);
        x.pass(9);
        Due.fails("shortest() of six, one on, one done", x, Due.MAY_NOT, x::shortest);
        x.begin(5);
        programme("five, two on, one done", x, 9, 1, 2, 3, 4, 5, -1, -1, -1, -1, -1);
    }

    private static void doneWorksAreNoneOfThe5() {
        TwofrontArcade x = Streets.of(10, 12);
        x.addCrew('d');
        for (int unit = 5; unit < 10; unit++) {
            Streets.beginAt(x, 1, unit);
            x.send(0, unit);
            x.pass(1);
        }
        programme("five done", x, 0, -1, -1, -1, -1, -1, -1, -1, -1, -1, -1);
        for (int unit = 0; unit < 5; unit++) {
            x.plan(unit, 2);
        }
        programme("five done and five planned", x, 6, 0, 0, 2, 2, 4, -1, -1, -1, -1, -1);
    }

    /** "no more than two are on at once": the third one on the day on which the first one's days are over. */
    private static void noMoreThanTwoAtOnce() {
        programme("two", planned(3, 5), 5, 0, 0);
        programme("three", planned(3, 5, 2), 5, 0, 0, 3);
        programme("three, one day more", planned(3, 5, 3), 6, 0, 0, 3);
    }

    /** "none beside another one with which it has a party wall": on the day on which that one's days are over. */
    private static void noneBesideAnotherOneBeyondAWall() {
        TwofrontArcade x = planned(1, 0, 0, 0, 0, 0, 0, 0, 0, 60);
        programme("without a wall", x, 60, 0, -1, -1, -1, -1, -1, -1, -1, -1, 0);
        x.addWall(9, 0);
        programme("with a wall", x, 61, 0, -1, -1, -1, -1, -1, -1, -1, -1, 1);
        TwofrontArcade y = planned(2, 3, 2);
        y.addWall(0, 1);
        y.addWall(1, 2);
        programme("with two walls of the middle one", y, 5, 0, 2, 0);
        y.addWall(0, 2);
        programme("with all walls", y, 7, 0, 2, 5);
        TwofrontArcade z = Streets.of(3, 12);
        z.addWall(0, 1);
        Streets.beginAt(z, 9, 1);
        z.plan(0, 1);
        z.plan(2, 1);
        programme("with a wall of one that is on", z, 10, 9, -1, 0);
    }

    /** "none ahead of the end of one on which it rests": on the day on which that one's days are over. */
    private static void noneAheadOfTheEndOfOneOnWhichItRests() {
        TwofrontArcade x = planned(4, 3);
        programme("no rest", x, 4, 0, 0);
        x.rest(0, 1);
        programme("a rest", x, 7, 3, 0);
        TwofrontArcade y = planned(1, 2, 3, 4, 5);
        for (int unit = 4; unit > 0; unit--) {
            y.rest(unit, unit - 1);
        }
        programme("a chain of five", y, 15, 0, 1, 3, 6, 10);
        TwofrontArcade z = planned(1, 2, 3, 4, 5);
        for (int unit = 1; unit < 5; unit++) {
            z.rest(0, unit);
        }
        // 5 and 2 beside 3 and 4
        programme("one that rests on all others", z, 8, 7, 0, 0, 3, 2);
    }

    /** A work that rests on one that is on waits for all days that this one has; one that is done has none. */
    private static void restsOnOneThatIsOn() {
        TwofrontArcade x = Streets.withWorksOn(3, 2);
        x.plan(0, 2);
        x.rest(0, 2);
        programme("rests on one that is on", x, 11, 9, -1, -1);
        x.find(2, 30);
        programme("rests on one that is on for longer", x, 41, 39, -1, -1);
        x.addCrew('d');
        x.send(0, 2);
        x.pass(30);
        programme("rests on one that is on for less", x, 11, 9, -1, -1);
        x.pass(9);
        programme("rests on one that is done", x, 2, 0, -1, -1);
    }

    /** "works that are on go on at once", with all the days that are left of them, and no more. */
    private static void worksOnGoOnAtOnce() {
        TwofrontArcade x = Streets.withWorksOn(4, 0, 2);
        programme("two on", x, 9, -1, -1, -1, -1);
        x.plan(1, 1);
        programme("two on and one", x, 10, -1, 9, -1, -1);
        x.addCrew('d');
        x.send(0, 2);
        x.pass(5);
        programme("two on, one for 4 days, and one", x, 9, -1, 4, -1, -1);
        x.find(2, 6);
        programme("two on, one for 10 days, and one", x, 10, -1, 9, -1, -1);
    }

    /** "if each needs its days without a break": with breaks, three of 2 days would be done in 3. */
    private static void eachWithoutABreak() {
        programme("three of 2 days", planned(2, 2, 2), 4, 0, 0, 2);
        programme("three of 1 day", planned(1, 1, 1), 2, 0, 0, 1);
        TwofrontArcade x = planned(5, 1, 1);
        x.addWall(0, 1);
        x.rest(2, 1);
        // the first one can't stop for the second one
        programme("a wall and a rest", x, 6, 1, 0, 1);
    }

    /** Five of 60 days behind one that is on for 99, each resting on the one ahead of it. */
    private static void theLongestOfAll() {
        TwofrontArcade x = Streets.of(10, 12);
        Streets.beginAt(x, 60, 9);
        x.find(9, 30);
        x.find(9, 9);
        for (int unit = 0; unit < 5; unit++) {
            x.plan(unit, 60);
            x.rest(unit, unit == 0 ? 9 : unit - 1);
        }
        programme("99 and five times 60 days", x, 399, 99, 159, 219, 279, 339, -1, -1, -1, -1, -1);
    }

    /** "in which the work of the lowest unit, of those not begun, begins earliest, then that of the next one" */
    private static void theLowestUnitFirst() {
        programme("five alike", planned(3, 3, 3, 3, 3), 9, 0, 0, 3, 3, 6);
        programme("three alike and room to spare", planned(1, 1, 1, 5), 5, 0, 1, 2, 0);
        // 0 and 1 at once would take 6 days, so the second one waits
        programme("the lowest one and the long one", planned(1, 1, 5), 5, 0, 1, 0);
        TwofrontArcade x = planned(2, 2, 2, 2);
        x.addWall(0, 1);
        programme("the lowest two apart", x, 4, 0, 2, 0, 2);
        x.rest(0, 3);
        programme("the lowest one behind the highest one", x, 4, 2, 0, 2, 0);
    }

    /** The programme is of works alone: no notice, no shop and no ways out hold it up. */
    private static void noticesAndShopsDoNotCount() {
        TwofrontArcade x = Streets.of(3, 4);
        x.addShop(0, 1, 99, false, 127, 60);
        x.plan(0, 3);
        x.plan(1, 4);
        programme("a shop, and nothing told", x, 4, 0, 0, -1);
        x.notice(0, 30);
        x.strike(30);
        programme("told for the day 30, in a strike", x, 4, 0, 0, -1);
    }

    // promise 36

    private static void startInOfNoSuchUnit() {
        TwofrontArcade x = planned(1, 0, 0, 0, 0, 0, 0, 0, 0, 1);
        Due.noSuch("startIn", x, 10, x::startIn);
        Due.is("startIn(0)", x.startIn(0), 0);
        Due.is("startIn(9)", x.startIn(9), 0);
    }

    /** "if it has no work that was not begun": none, one that is on, or one that is done. */
    private static void startInOfNoWorkThatWasNotBegun() {
        TwofrontArcade x = Streets.of(2, 12);
        Due.fails("startIn(0), no work", x, Due.NONE, () -> x.startIn(0));
        x.plan(0, 1);
        x.notice(0, 7);
        Due.is("startIn(0), planned", x.startIn(0), 0);
        x.pass(7);
        x.begin(0);
        Due.fails("startIn(0), on", x, Due.NONE, () -> x.startIn(0));
        x.addCrew('h');
        x.send(0, 0);
        x.pass(1);
        Due.fails("startIn(0), done", x, Due.NONE, () -> x.startIn(0));
    }

    /** IndexOutOfBoundsException, then UnsupportedOperationException, then NoSuchElementException. */
    private static void startInThrowsTheFirst() {
        TwofrontArcade x = planned(1, 1, 1, 1, 1, 1);
        Due.noSuch("startIn of six", x, 10, x::startIn);
        Due.fails("startIn(9) of six, no work", x, Due.MAY_NOT, () -> x.startIn(9));
        x.notice(0, 7);
        x.pass(7);
        x.begin(0);
        Due.fails("startIn(0) of five, on", x, Due.NONE, () -> x.startIn(0));
        x.plan(6, 1);
        Due.fails("startIn(0) of six, on", x, Due.MAY_NOT, () -> x.startIn(0));
    }

    /** "on which day from now on", "0 for today": days that go by change nothing of it. */
    private static void daysFromNowOn() {
        TwofrontArcade x = planned(3, 3, 3);
        programme("on the day 0", x, 6, 0, 0, 3);
        x.pass(30);
        programme("on the day 30", x, 6, 0, 0, 3);
        Streets.passTo(x, 999);
        programme("on the day 999", x, 6, 0, 0, 3);
    }
}
