/** Promises 21 to 23, each sentence that names a bound: by how much shops are seen and known, and dust. */
public final class BoundsOfTradeTest {
    public static void main(String[] args) {
        noSuchShop();
        seenBy100Less20ForEachHoarding();
        seenBesideTwoUnitsBeforeOrBehind();
        seenOverTheEndsOfThePassage();
        seenFromTheUnit0OnAStall();
        seenBy0IfShut();
        seenByPlannedAndDoneWorks();
        knownBy100AtFirst();
        knownBy100AtMost();
        knownBy0AtLeast();
        knownBy0AtLeastFromAnOddNumber();
        knownBy60AtMostOnComing();
        knownOnTheDayOfComing();
        noDustInNoUnit();
        noDustWithoutADustyCrew();
        noDustUnlessAWorkIsOn();
        noDustInAStrike();
        noDustBeyondNoWall();
        dustOnQuietDaysToo();
        Due.end("BoundsOfTradeTest");
    }

    private static void noSuchShop() {
        TwofrontArcade x = Streets.of(10, 12);
        for (int shop = 0; shop < 10; shop++) {
            x.addShop(shop, 1, 0, false, 0, 60);
        }
        Due.noSuch("seen", x, 10, x::seen);
        Due.noSuch("known", x, 10, x::known);
        Due.noSuch("isDusty", x, 10, x::isDusty);
        for (int shop = 0; shop < 10; shop += 9) {
            Due.is("seen(" + shop + ")", x.seen(shop), 100);
            Due.is("known(" + shop + ")", x.known(shop), 100);
            Due.is("isDusty(" + shop + ")", x.isDusty(shop), false);
        }
    }

    // promise 21

    /** "100 less 20 for each hoarding": none, one, or two, which is the most that can be on. */
    private static void seenBy100Less20ForEachHoarding() {
        TwofrontArcade x = Streets.of(5, 12);
        x.addShop(2, 1, 0, false, 0, 9);
        x.plan(1, 1);
        x.plan(3, 1);
        x.notice(1, 7);
        x.notice(3, 7);
        x.pass(7);
        Due.is("seen(0), no hoarding", x.seen(0), 100);
        x.begin(1);
        Due.is("seen(0), one hoarding", x.seen(0), 80);
        x.begin(3);
        Due.is("seen(0), two hoardings", x.seen(0), 60);
        x.pass(1);
        Due.is("took(0) by 60", x.took(0), 760);
        Due.is("lost(0, 'h') by 60", x.lost(0, 'h'), 40);
    }

    /** "at one of the two units before or behind its place": the second one still, the third one not. */
    private static void seenBesideTwoUnitsBeforeOrBehind() {
        for (int at = 0; at < 10; at++) {
            TwofrontArcade x = Streets.withWorksOn(10, at);
            for (int unit = 0, shop = 0; unit < 10; unit++) {
                if (unit != at) {
                    x.addShop(unit, 1, 0, false, 0, 9);
                    boolean isHidden = Math.abs(unit - at) <= 2;
                    String call = "seen of one in the unit " + unit + ", a hoarding at " + at;
                    Due.is(call, x.seen(shop), isHidden ? 80 : 100);
                    shop++;
                }
            }
        }
    }

    /** At the first unit and at the last one there are units on one side alone. */
    private static void seenOverTheEndsOfThePassage() {
        TwofrontArcade x = Streets.withWorksOn(6, 1, 2);
        x.addShop(0, 1, 0, false, 0, 9);
        x.addShop(5, 1, 0, false, 0, 9);
        Due.is("seen(0) in the first unit, both behind it", x.seen(0), 60);
        Due.is("seen(1) in the last unit, both three or more before it", x.seen(1), 100);
        TwofrontArcade y = Streets.withWorksOn(6, 3, 4);
        y.addShop(0, 1, 0, false, 0, 9);
        y.addShop(5, 1, 0, false, 0, 9);
        Due.is("seen(0) in the first unit, both three or more behind it", y.seen(0), 100);
        Due.is("seen(1) in the last unit, both before it", y.seen(1), 60);
        TwofrontArcade z = Streets.of(1, 12);
        z.addShop(0, 1, 0, false, 0, 9);
        Due.is("seen(0) in the only unit", z.seen(0), 100);
    }

    /** "its place being its unit, or the unit 0" */
    private static void seenFromTheUnit0OnAStall() {
        for (int at = 0; at < 5; at++) {
            TwofrontArcade x = Streets.withWorksOn(6, at);
            x.addShop(5, 1, 0, false, 0, 9);
            x.toStall(0);
            Due.is("seen(0) on a stall, a hoarding at " + at, x.seen(0), at == 1 || at == 2 ? 80 : 100);
        }
        TwofrontArcade y = Streets.withWorksOn(6, 1, 2);
        y.addShop(5, 1, 0, false, 0, 9);
        y.toStall(0);
        Due.is("seen(0) on a stall, two hoardings", y.seen(0), 60);
    }

    /** "0 if it is 's'" */
    private static void seenBy0IfShut() {
        TwofrontArcade x = Streets.of(2, 12);
        x.addShop(0, 1, 0, false, 0, 9);
        x.store(0);
        Due.is("seen(0), shut", x.seen(0), 0);
        x.move(0, 1);
        Due.is("seen(0), coming into a unit", x.seen(0), 100);
        x.store(0);
        x.toStall(0);
        Due.is("seen(0), coming onto a stall", x.seen(0), 100);
    }

    /** "The hoarding of a work that is on": not ahead of it, nor behind it. */
    private static void seenByPlannedAndDoneWorks() {
        TwofrontArcade x = Streets.of(2, 12);
        x.addShop(0, 1, 0, false, 0, 9);
        x.plan(1, 1);
        x.notice(1, 7);
        x.pass(7);
        Due.is("seen(0), planned", x.seen(0), 100);
        x.begin(1);
        Due.is("seen(0), on", x.seen(0), 80);
        x.addCrew('d');
        x.send(0, 1);
        x.pass(1);
        Due.is("seen(0), done", x.seen(0), 100);
        Due.is("lost(0, 'h') on the one day", x.lost(0, 'h'), 20);
    }

    // promise 22

    /** "It is known by 100 at first", on whatever day it is added. */
    private static void knownBy100AtFirst() {
        TwofrontArcade x = Streets.of(2, 12);
        x.addShop(0, 1, 0, false, 0, 9);
        Due.is("known(0) on the day 0", x.known(0), 100);
        x.pass(30);
        x.addShop(1, 1, 0, false, 0, 9);
        Due.is("known(1) on the day 30", x.known(1), 100);
    }

    /** "5 more, 100 at most, behind a day on which it was not shut" */
    private static void knownBy100AtMost() {
        TwofrontArcade x = Streets.of(2, 12);
        x.addShop(0, 1, 0, false, 0, 60);
        x.pass(1);
        Due.is("known(0), 100 and a day", x.known(0), 100);
        x.move(0, 1);
        x.pass(1);
        int[] due = {58, 63, 68, 73, 78, 83, 88, 93, 98, 100, 100};
        for (int day = 0; day < due.length; day++) {
            Due.is("known(0) behind " + day + " days of trade", x.known(0), due[day]);
            x.pass(1);
        }
        // come by 60, and stored on the same day: 60 less 2 on 4 days is 52, come again and 2 less is 50
        x.move(0, 0);
        x.store(0);
        x.pass(4);
        x.move(0, 0);
        x.pass(1);
        Due.is("known(0), 50", x.known(0), 50);
        x.pass(9);
        Due.is("known(0), 95", x.known(0), 95);
        x.pass(1);
        Due.is("known(0), 95 and a day", x.known(0), 100);
        x.pass(1);
        Due.is("known(0), 100 and a day again", x.known(0), 100);
    }

    /** "2 less, 0 at least, behind one on which it was": down to 0 by an even number. */
    private static void knownBy0AtLeast() {
        TwofrontArcade x = Streets.of(2, 12);
        x.addShop(0, 1, 0, false, 0, 60);
        x.store(0);
        x.pass(30);
        Due.is("known(0) behind 30 days", x.known(0), 40);
        x.pass(19);
        Due.is("known(0) behind 49 days", x.known(0), 2);
        x.pass(1);
        Due.is("known(0) behind 50 days", x.known(0), 0);
        x.pass(1);
        Due.is("known(0) behind 51 days", x.known(0), 0);
        x.move(0, 1);
        Due.is("known(0), come by 0", x.known(0), 0);
        x.pass(1);
        Due.is("known(0) behind the day of coming", x.known(0), 0);
        x.pass(1);
        Due.is("known(0), 0 and a day", x.known(0), 5);
        Due.is("took(0), known by 0", x.took(0), 0);
        Due.is("lost(0, 'm'), known by 0", x.lost(0, 'm'), 100);
        x.pass(1);
        Due.is("took(0), known by 5", x.took(0), 5);
    }

    private static void knownBy0AtLeastFromAnOddNumber() {
        TwofrontArcade x = Streets.of(2, 12);
        x.addShop(0, 1, 0, false, 0, 60);
        x.move(0, 1);
        x.pass(2);
        Due.is("known(0), an odd number", x.known(0), 63);
        x.store(0);
        x.pass(30);
        Due.is("known(0) behind 30 days", x.known(0), 3);
        x.pass(1);
        Due.is("known(0) behind 31 days", x.known(0), 1);
        x.pass(1);
        Due.is("known(0) behind 32 days", x.known(0), 0);
    }

    /** "who comes into a unit or onto a stall is known by 60 at most": 60 stays, and so does what is less. */
    private static void knownBy60AtMostOnComing() {
        // shut on 19 days it is known by 62, on 20 by 60, on 21 by 58
        for (int days = 19; days <= 21; days++) {
            for (int way = 0; way < 2; way++) {
                TwofrontArcade x = Streets.of(2, 12);
                x.addShop(0, 1, 0, false, 0, 60);
                x.store(0);
                x.pass(days);
                Due.is("known(0) behind " + days + " days", x.known(0), 100 - 2 * days);
                if (way == 0) {
                    x.move(0, 1);
                } else {
                    x.toStall(0);
                }
                Due.is("known(0), come behind " + days + " days", x.known(0), days == 21 ? 58 : 60);
            }
        }
        TwofrontArcade y = Streets.of(2, 12);
        y.addShop(0, 1, 0, false, 0, 0);
        Due.fails("move(0, 1), 0 days", y, Due.MAY_NOT, () -> y.move(0, 1));
        Due.is("known(0), which did not come", y.known(0), 100);
    }

    /** The day of coming is one on which it was shut. */
    private static void knownOnTheDayOfComing() {
        TwofrontArcade x = Streets.of(2, 12);
        x.addShop(0, 1, 0, false, 0, 60);
        x.toStall(0);
        x.pass(1);
        Due.is("known(0) behind the day of coming", x.known(0), 58);
        x.pass(1);
        Due.is("known(0) behind a day on a stall", x.known(0), 63);
        Due.is("took(0) on a stall, half of 58", x.took(0), 29);
        Due.is("lost(0, 'm') on a stall", x.lost(0, 'm'), 71);
    }

    // promise 23

    /** Five units, a work of 9 days on in the unit 1, which has walls with 0 and 2, and shops in 0 and 3. */
    private static TwofrontArcade dustyStreet() {
        TwofrontArcade x = Streets.of(5, 12);
        x.addWall(0, 1);
        x.addWall(1, 2);
        x.addShop(0, 1, 0, false, 127, 60);
        x.addShop(3, 1, 0, true, 0, 60);
        Streets.beginAt(x, 9, 1);
        x.addCrew('d');
        x.send(0, 1);
        return x;
    }

    /** "false if it is in no unit" */
    private static void noDustInNoUnit() {
        TwofrontArcade x = dustyStreet();
        Due.is("isDusty(0), its goods need not be clean", x.isDusty(0), true);
        x.toStall(0);
        Due.is("isDusty(0) on a stall", x.isDusty(0), false);
        x.store(0);
        Due.is("isDusty(0) shut", x.isDusty(0), false);
        x.move(0, 2);
        Due.is("isDusty(0) coming into a unit", x.isDusty(0), true);
    }

    private static void noDustWithoutADustyCrew() {
        TwofrontArcade x = dustyStreet();
        x.send(0, -1);
        Due.is("isDusty(0), no crew", x.isDusty(0), false);
        x.addCrew('n');
        x.addCrew('h');
        x.send(1, 1);
        x.send(2, 1);
        Due.is("isDusty(0), a noisy and a hot crew", x.isDusty(0), false);
        x.addCrew('d');
        x.send(3, 1);
        Due.is("isDusty(0), the last crew dusty", x.isDusty(0), true);
    }

    /** "at a unit whose work is on": not ahead of it, nor behind it. */
    private static void noDustUnlessAWorkIsOn() {
        TwofrontArcade x = Streets.of(2, 12);
        x.addWall(0, 1);
        x.addShop(0, 1, 0, true, 0, 9);
        x.addCrew('d');
        x.send(0, 1);
        Due.is("isDusty(0), no work", x.isDusty(0), false);
        x.plan(1, 1);
        x.notice(1, 7);
        x.pass(7);
        Due.is("isDusty(0), planned", x.isDusty(0), false);
        x.begin(1);
        Due.is("isDusty(0), on", x.isDusty(0), true);
        x.pass(1);
        Due.is("isDusty(0), done", x.isDusty(0), false);
        x.pass(1);
        Due.is("lost(0, 'd') by the one day of dust", x.lost(0, 'd'), 40);
    }

    /** "but not in a strike": on its last day still, on the next one not. */
    private static void noDustInAStrike() {
        TwofrontArcade x = dustyStreet();
        x.strike(2);
        Due.is("isDusty(0), 2 days of strike", x.isDusty(0), false);
        x.pass(1);
        Due.is("isDusty(0), 1 day of strike", x.isDusty(0), false);
        x.pass(1);
        Due.is("isDusty(0), no strike", x.isDusty(0), true);
    }

    /** "in a unit with which that has a party wall": being next to it is not enough. */
    private static void noDustBeyondNoWall() {
        TwofrontArcade x = dustyStreet();
        Due.is("isDusty(1), no wall", x.isDusty(1), false);
        x.move(1, 2);
        Due.is("isDusty(1), a wall", x.isDusty(1), true);
        TwofrontArcade y = Streets.withWorksOn(10, 9);
        y.addCrew('d');
        y.send(0, 9);
        y.addShop(8, 1, 0, true, 0, 9);
        y.addShop(0, 1, 0, true, 0, 9);
        Due.is("isDusty(0) next to it, no wall", y.isDusty(0), false);
        Due.is("isDusty(1) far from it, no wall", y.isDusty(1), false);
        TwofrontArcade z = Streets.of(10, 12);
        z.addWall(9, 0);
        Streets.beginAt(z, 9, 9);
        z.addCrew('d');
        z.send(0, 9);
        z.addShop(0, 1, 0, true, 0, 9);
        Due.is("isDusty(0) far from it, a wall", z.isDusty(0), true);
    }

    /** A quiet day stops noisy crews alone. */
    private static void dustOnQuietDaysToo() {
        TwofrontArcade x = dustyStreet();
        for (int day = 0; day < 7; day++) {
            Due.is("isDusty(0) on a quiet day", x.isDusty(0), true);
            Due.is("canWork(0) on a quiet day", x.canWork(0), true);
            x.pass(1);
        }
    }
}
