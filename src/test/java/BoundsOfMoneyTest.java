import java.math.BigInteger;

/** Promises 37 to 44, each sentence that names a bound: what shops took and lost, what is cut, sums over all. */
public final class BoundsOfMoneyTest {
    private static final char[] CAUSES = {'h', 'm', 'd', 's'};

    public static void main(String[] args) {
        noSuchShop();
        fourCausesAlone();
        lostThrowsTheFirst();
        noneAtFirst();
        noneOfNoPeople();
        shutItLosesAllOfThat();
        theMostOfAll();
        cutByHoardings();
        cutByHabits();
        cutOnAStall();
        cutByDust();
        cutOneBehindAnother();
        noDustForGoodsThatNeedNotBeClean();
        noDustOnAStall();
        rentIsCut();
        fundOfNone();
        fundIsCutForEachShopByItself();
        fundPaysNoneOfTheDaysShut();
        checksumOfNone();
        checksumOfAllUnitsAndShops();
        checksumOfStatesAndDays();
        shareFromNoneToAll();
        meanOfOneAndOfTen();
        soundFromEmptyToFull();
        Due.end("BoundsOfMoneyTest");
    }

    private static void money(String when, TwofrontArcade x, int shop, long took, long... lost) {
        Due.is("took(" + shop + ") " + when, x.took(shop), took);
        for (int i = 0; i < CAUSES.length; i++) {
            Due.is("lost(" + shop + ", '" + CAUSES[i] + "') " + when, x.lost(shop, CAUSES[i]), lost[i]);
        }
    }

    private static void setAllPeople(TwofrontArcade x, int people) {
        for (int weekday = 0; weekday < 7; weekday++) {
            x.setPeople(weekday, people);
        }
    }

    // promises 37 and 38

    private static void noSuchShop() {
        TwofrontArcade x = Streets.of(10, 12);
        for (int shop = 0; shop < 10; shop++) {
            x.addShop(shop, 1, 0, false, 0, 60);
        }
        Due.noSuch("took", x, 10, x::took);
        Due.noSuch("rent", x, 10, x::rent);
        for (char cause : CAUSES) {
            Due.noSuch("lost(.., '" + cause + "')", x, 10, shop -> x.lost(shop, cause));
        }
        x.pass(1);
        money("behind a day", x, 0, 100, 0, 0, 0, 0);
        money("behind a day", x, 9, 100, 0, 0, 0, 0);
    }

    /** "if there is no such cause" */
    private static void fourCausesAlone() {
        TwofrontArcade x = Streets.of(1, 12);
        x.addShop(0, 1, 0, false, 0, 60);
        for (char cause : new char[] {0, 'H', 'M', 'D', 'S', 'c', 'q', 'p', 'o', 't', 'w', 'n', (char) ('h' + 256)}) {
            Due.fails("lost of the sign " + (int) cause, x, Due.BAD, () -> x.lost(0, cause));
        }
        money("at first", x, 0, 0, 0, 0, 0, 0);
    }

    private static void lostThrowsTheFirst() {
        TwofrontArcade x = Streets.of(1, 12);
        x.addShop(0, 1, 0, false, 0, 60);
        Due.noSuch("lost(.., 'x')", x, 1, shop -> x.lost(shop, 'x'));
    }

    /** Each shop has its own francs, from the day on which it is added. */
    private static void noneAtFirst() {
        TwofrontArcade x = Streets.of(2, 12);
        x.addShop(0, 1, 0, false, 0, 60);
        money("at first", x, 0, 0, 0, 0, 0, 0);
        x.pass(30);
        x.addShop(1, 1, 0, false, 0, 60);
        money("at first, on the day 30", x, 1, 0, 0, 0, 0, 0);
        Due.is("rent(1) at first", x.rent(1), 0);
        x.pass(1);
        money("behind 31 days", x, 0, 3100, 0, 0, 0, 0);
        money("behind its first day", x, 1, 100, 0, 0, 0, 0);
    }

    /** "People come .., 0 to 999": of 0 nothing is taken or lost. */
    private static void noneOfNoPeople() {
        TwofrontArcade x = Streets.of(2, 12);
        x.addShop(0, 9, 0, true, 0, 60);
        setAllPeople(x, 0);
        x.pass(7);
        x.toStall(0);
        x.pass(7);
        x.store(0);
        x.pass(7);
        money("of no people", x, 0, 0, 0, 0, 0, 0);
        Due.is("fund() of no people", x.fund(), 0);
        Due.is("isSound() of no people", x.isSound(), true);
    }

    /** "Shut, it loses all of that by 's'", as on the day of coming. */
    private static void shutItLosesAllOfThat() {
        TwofrontArcade x = Streets.of(2, 12);
        x.addShop(0, 9, 0, true, 0, 60);
        setAllPeople(x, 999);
        x.store(0);
        x.pass(1);
        money("shut", x, 0, 0, 0, 0, 0, 8991);
        x.move(0, 1);
        x.pass(1);
        money("coming into a unit", x, 0, 0, 0, 0, 0, 2 * 8991);
        x.toStall(0);
        x.pass(1);
        money("coming onto a stall", x, 0, 0, 0, 0, 0, 3 * 8991);
        // known by 100 less 2, cut to 60, less 2, less 2: 56
        x.pass(1);
        money("on a stall", x, 0, 8991 * 56 / 100 / 2, 0, 8991 - 8991 * 56 / 100 / 2, 0, 3 * 8991);
    }

    /** Ten shops that take all there is on all days. */
    private static void theMostOfAll() {
        TwofrontArcade x = Streets.of(10, 12);
        for (int shop = 0; shop < 10; shop++) {
            x.addShop(shop, 9, 0, false, 0, 0);
        }
        setAllPeople(x, 999);
        Streets.passTo(x, 999);
        for (int shop = 0; shop < 10; shop++) {
            money("on 999 days", x, shop, 8982009, 0, 0, 0, 0);
            Due.is("rent(" + shop + ")", x.rent(shop), 898200);
        }
        Due.is("meanTaken()", x.meanTaken(), 8982009.0);
        Due.is("isSound()", x.isSound(), true);
    }

    /** "All is cut": 1 by 80 is 0, 4 are 3, 5 are 4. */
    private static void cutByHoardings() {
        int[] people = {1, 2, 3, 4, 5, 6};
        int[] taken = {0, 1, 2, 3, 4, 4};
        for (int i = 0; i < people.length; i++) {
            TwofrontArcade x = Streets.withWorksOn(2, 1);
            x.addShop(0, 1, 0, false, 0, 60);
            setAllPeople(x, people[i]);
            x.pass(1);
            money("by " + people[i] + " people, seen by 80", x, 0, taken[i], people[i] - taken[i], 0, 0, 0);
        }
    }

    /** Known by 58: 1 is 0, 2 are 1, 50 are 29, 51 are 29. */
    private static void cutByHabits() {
        int[] people = {1, 2, 50, 51, 52};
        int[] taken = {0, 1, 29, 29, 30};
        for (int i = 0; i < people.length; i++) {
            TwofrontArcade x = Streets.of(2, 12);
            x.addShop(0, 1, 0, true, 0, 60);
            setAllPeople(x, people[i]);
            x.move(0, 1);
            x.pass(2);
            money("by " + people[i] + " people, known by 58", x, 0, taken[i], 0, people[i] - taken[i], 0, people[i]);
        }
    }

    /** "and of that, on a stall, half": of 1 of 2 it is 0, of 29 of 50 it is 14. */
    private static void cutOnAStall() {
        int[] people = {1, 2, 50, 52};
        int[] taken = {0, 0, 14, 15};
        for (int i = 0; i < people.length; i++) {
            TwofrontArcade x = Streets.of(2, 12);
            x.addShop(0, 1, 0, true, 0, 60);
            setAllPeople(x, people[i]);
            x.toStall(0);
            x.pass(2);
            money("by " + people[i] + " people, on a stall", x, 0, taken[i], 0, people[i] - taken[i], 0, people[i]);
        }
    }

    /** "then half, if its goods must be clean": of 1 it is 0, of 2 and 3 it is 1. */
    private static void cutByDust() {
        for (int people = 0; people <= 5; people++) {
            TwofrontArcade x = Streets.of(9, 12);
            x.addWall(0, 8);
            x.addShop(0, 1, 0, true, 0, 60);
            Streets.beginAt(x, 9, 8);
            x.addCrew('d');
            x.send(0, 8);
            setAllPeople(x, people);
            x.pass(1);
            money("by " + people + " people, in dust", x, 0, 700 + people / 2, 0, 0, people - people / 2, 0);
        }
    }

    /** "first, the hundredths that it is seen ..; then the hundredths that it is known ..; then half": each is cut. */
    private static void cutOneBehindAnother() {
        TwofrontArcade x = Streets.of(4, 12);
        x.addWall(0, 1);
        x.addShop(3, 1, 0, true, 0, 60);
        Streets.beginAt(x, 9, 1, 2);
        setAllPeople(x, 99);
        x.addCrew('d');
        x.send(0, 1);
        x.move(0, 0);
        x.pass(2);
        // 99 by 60 is 59, of which 58 hundredths are 34, of which half is 17
        money("behind all three", x, 0, 700 + 17, 40, 25, 17, 99);
        Due.is("fund() behind all three", x.fund(), 41);
        Due.is("isSound() behind all three", x.isSound(), true);
    }

    private static void noDustForGoodsThatNeedNotBeClean() {
        for (int way = 0; way < 2; way++) {
            TwofrontArcade x = Streets.of(9, 12);
            x.addWall(0, 8);
            x.addShop(0, 1, 0, way == 0, 0, 60);
            Streets.beginAt(x, 9, 8);
            x.addCrew('d');
            x.send(0, 8);
            x.pass(1);
            Due.is("isDusty(0)", x.isDusty(0), true);
            money("clean or not", x, 0, way == 0 ? 750 : 800, 0, 0, way == 0 ? 50 : 0, 0);
        }
    }

    /** "it is in a unit": a stall has no dust, nor has a shop that is shut. */
    private static void noDustOnAStall() {
        TwofrontArcade x = Streets.of(9, 12);
        x.addWall(0, 8);
        x.addShop(0, 1, 0, true, 0, 60);
        Streets.beginAt(x, 9, 8);
        x.addCrew('d');
        x.send(0, 8);
        x.toStall(0);
        x.pass(2);
        money("on a stall", x, 0, 729, 0, 71, 0, 100);
        x.store(0);
        x.pass(1);
        money("shut", x, 0, 729, 0, 71, 0, 200);
    }

    // promises 39 and 40

    /** "The rent is a tenth of what it took, cut." */
    private static void rentIsCut() {
        TwofrontArcade x = Streets.of(1, 12);
        x.addShop(0, 1, 0, false, 0, 60);
        setAllPeople(x, 1);
        for (int took = 0; took <= 31; took++) {
            Due.is("rent(0) of " + took, x.rent(0), took / 10);
            x.pass(1);
        }
        x.store(0);
        x.pass(30);
        Due.is("rent(0) of one that is shut", x.rent(0), 3);
    }

    private static void fundOfNone() {
        Due.is("fund() of a new object", new TwofrontArcade().fund(), 0);
        TwofrontArcade x = Streets.of(1, 12);
        x.addShop(0, 9, 0, true, 0, 60);
        Due.is("fund() at first", x.fund(), 0);
        x.pass(30);
        Due.is("fund() without losses", x.fund(), 0);
    }

    /** "half of what a shop lost .., cut, each shop by itself": ten halves of 1 are 0, ten of 2 are 10. */
    private static void fundIsCutForEachShopByItself() {
        TwofrontArcade x = Streets.of(10, 12);
        Streets.beginAt(x, 60, 5);
        for (int unit : new int[] {3, 4, 6, 7}) {
            x.addShop(unit, 1, 0, false, 0, 60);
        }
        setAllPeople(x, 1);
        x.pass(1);
        Due.is("fund() of four that lost 1", x.fund(), 0);
        x.pass(1);
        Due.is("fund() of four that lost 2", x.fund(), 4);
        x.pass(1);
        Due.is("fund() of four that lost 3", x.fund(), 4);
        x.setPeople(3, 0);
        x.pass(1);
        Due.is("fund() of four that lost 3, behind a day without people", x.fund(), 4);
    }

    /** "by 'h', 'm' and 'd'": together, and not by 's'. */
    private static void fundPaysNoneOfTheDaysShut() {
        TwofrontArcade x = Streets.of(2, 12);
        x.addShop(0, 1, 0, false, 0, 60);
        x.store(0);
        x.pass(30);
        Due.is("lost(0, 's')", x.lost(0, 's'), 3000);
        Due.is("fund() of days shut", x.fund(), 0);
        x.move(0, 1);
        x.pass(2);
        money("known by 38", x, 0, 38, 0, 62, 0, 3100);
        Due.is("fund() of a day open", x.fund(), 31);
    }

    // promises 41 to 44

    /** "7 at first, .. then 31 times itself plus the day" */
    private static void checksumOfNone() {
        TwofrontArcade x = new TwofrontArcade();
        Due.is("checksum() on the day 0", x.checksum(), 7 * 31);
        x.pass(1);
        Due.is("checksum() on the day 1", x.checksum(), 7 * 31 + 1);
        Streets.passTo(x, 999);
        Due.is("checksum() on the day 999", x.checksum(), 7 * 31 + 999);
        x.addUnit(4);
        Due.is("checksum() of a unit without a work", x.checksum(), 7 * 31 * 31 + 999);
    }

    /** Ten shops and ten units make a number beyond those that a long holds; what is beyond is left out. */
    private static void checksumOfAllUnitsAndShops() {
        TwofrontArcade x = Streets.of(10, 12);
        BigInteger sum = BigInteger.valueOf(7);
        for (int shop = 0; shop < 10; shop++) {
            x.addShop(shop, shop % 9 + 1, 0, false, 0, 60);
            x.plan(shop, 6 * shop + 1);
        }
        Streets.passTo(x, 999);
        for (int shop = 0; shop < 10; shop++) {
            sum = next(next(next(sum, 99900L * (shop % 9 + 1)), 100), 'o');
        }
        for (int unit = 0; unit < 10; unit++) {
            sum = next(sum, 6 * unit + 1);
        }
        sum = next(sum, 999);
        Due.is("the sum is beyond a long", sum.bitLength() > 63, true);
        Due.is("checksum() of all", x.checksum(), sum.longValue());
    }

    private static BigInteger next(BigInteger sum, long part) {
        return sum.multiply(BigInteger.valueOf(31)).add(BigInteger.valueOf(part));
    }

    /** "its state as a number"; "the days left of its work, 0 without", 0 of one that is done too. */
    private static void checksumOfStatesAndDays() {
        TwofrontArcade x = Streets.of(3, 12);
        x.addShop(0, 1, 0, false, 0, 60);
        setAllPeople(x, 0);
        Due.is("checksum() in a unit", x.checksum(), checksum(0, 100, 'o', 0, 0, 0, 0));
        x.toStall(0);
        Due.is("checksum() on a stall", x.checksum(), checksum(0, 60, 't', 0, 0, 0, 0));
        x.store(0);
        Due.is("checksum() shut", x.checksum(), checksum(0, 60, 's', 0, 0, 0, 0));
        Streets.beginAt(x, 60, 2);
        Due.is("checksum() of a work on", x.checksum(), checksum(0, 46, 's', 0, 0, 60, 7));
        x.find(2, 30);
        x.find(2, 9);
        Due.is("checksum() of 99 days left", x.checksum(), checksum(0, 46, 's', 0, 0, 99, 7));
        x.plan(0, 1);
        x.notice(0, 14);
        x.pass(7);
        x.begin(0);
        x.addCrew('d');
        x.send(0, 0);
        x.pass(1);
        Due.is("checksum() of a work done", x.checksum(), checksum(0, 30, 's', 0, 0, 99, 15));
    }

    private static long checksum(long... parts) {
        BigInteger sum = BigInteger.valueOf(7);
        for (long part : parts) {
            sum = next(sum, part);
        }
        return sum.longValue();
    }

    /** "if there are none"; from none open to all, of 1 to 10 shops. */
    private static void shareFromNoneToAll() {
        for (int shops = 0; shops <= 10; shops++) {
            TwofrontArcade x = Streets.of(10, 12);
            if (shops == 0) {
                Due.fails("openShare(), none", x, Due.NONE, x::openShare);
                Due.fails("meanTaken(), none", x, Due.NONE, x::meanTaken);
            }
            for (int shop = 0; shop < shops; shop++) {
                x.addShop(shop, 1, 0, false, 0, 60);
            }
            for (int open = shops; open > 0; open--) {
                Due.is("openShare() of " + open + " by " + shops, x.openShare(), (float) open / (float) shops);
                x.store(open - 1);
            }
            if (shops > 0) {
                Due.is("openShare() of 0 by " + shops, x.openShare(), 0f);
                x.toStall(0);
                Due.is("openShare() of 1 on a stall by " + shops, x.openShare(), 1f / shops);
            }
        }
    }

    private static void meanOfOneAndOfTen() {
        TwofrontArcade x = Streets.of(10, 12);
        x.addShop(0, 1, 0, false, 0, 60);
        Due.is("meanTaken() of 0", x.meanTaken(), 0.0);
        x.setPeople(0, 7);
        x.setPeople(1, 3);
        x.pass(1);
        Due.is("meanTaken() of 7 by 1", x.meanTaken(), 7.0);
        for (int shop = 1; shop < 10; shop++) {
            x.addShop(shop, 1, 0, false, 0, 60);
            Due.is("meanTaken() of 7 by " + (shop + 1), x.meanTaken(), 7.0 / (shop + 1));
        }
        x.store(0);
        x.pass(1);
        Due.is("meanTaken() of 34 by 10", x.meanTaken(), 3.4);
    }

    /** A new object is sound, and so is one that is full of all that it may have. */
    private static void soundFromEmptyToFull() {
        TwofrontArcade x = new TwofrontArcade();
        Due.is("isSound() of a new object", x.isSound(), true);
        for (int unit = 0; unit < 10; unit++) {
            x.addUnit(unit == 4 || unit == 5 ? 12 : 6);
            x.plan(unit, 60);
        }
        x.addWall(4, 3);
        x.addWall(5, 6);
        Streets.passTo(x, 7);
        x.notice(4, 14);
        x.notice(5, 14);
        x.pass(7);
        Due.is("begin(4)", x.begin(4), 1);
        Due.is("begin(5)", x.begin(5), 2);
        int[] people = {51, 99, 0, 0, 0, 0, 99, 51};
        int[] units = {0, 1, 2, 3, 6, 7, 8, 9};
        for (int shop = 0; shop < 8; shop++) {
            Due.is("addShop no. " + shop, x.addShop(units[shop], 9, people[shop], true, 127, 60), shop);
        }
        Due.is("flow(0) is room(0)", x.flow(0), x.room(0));
        Due.is("flow(9) is room(9)", x.flow(9), x.room(9));
        for (char trade : new char[] {'d', 'n', 'h', 'h'}) {
            int crew = x.addCrew(trade);
            x.send(crew, crew % 2 == 0 ? 4 : 5);
        }
        x.toStall(2);
        x.toStall(3);
        x.store(5);
        Due.is("isSound() of all at once", x.isSound(), true);
        x.pass(30);
        x.pass(30);
        Due.is("isSound() behind 60 days", x.isSound(), true);
        Due.fails("pass(1) behind 60 days shut", x, Due.MAY_NOT, () -> x.pass(1));
        Due.is("isSound() behind a day that did not go by", x.isSound(), true);
        Due.is("areWide() at the end", x.areWide(), true);
    }
}
