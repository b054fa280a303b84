/** Promises 30 to 34, each sentence that names a bound: crews, where they are, strikes and the days that works lose. */
public final class BoundsOfCrewsTest {
    private static final char[] CAUSES = {'s', 'c', 'q', 'p'};

    public static void main(String[] args) {
        threeTradesAlone();
        atMost4Crews();
        addCrewThrowsTheFirst();
        sendOfNoSuchCrew();
        sendToNoSuchUnitButNone();
        atNoneAsAtFirst();
        canWorkOfNoSuchCrew();
        canWorkAtAWorkThatIsOn();
        noWorkInAStrike();
        noisyOnlyIfNotQuiet();
        noisyBesideAShopInAUnitAlone();
        hotOnlyIfNoLowerOneDoes();
        hotThoughOthersDoTheLastDay();
        fourCrewsDoFourDays();
        aStrikeOf1To30Days();
        aStrikeTillALaterEnd();
        aStrikeFromNowOn();
        lostDaysOfNoSuchUnit();
        fourCausesAlone();
        lostDaysThrowsTheFirst();
        noneLostWithoutAWork();
        noneLostUnlessOn();
        noneLostIfAnythingIsDone();
        lostByAStrike();
        lostByNoCrew();
        lostByAQuietDay();
        lostOtherwise();
        eachDayIsLostOnce();
        Due.end("BoundsOfCrewsTest");
    }

    /** So many crews of a trade, each sent to a unit. */
    private static void sendAll(TwofrontArcade x, String trades, int unit) {
        for (int i = 0; i < trades.length(); i++) {
            x.send(x.addCrew(trades.charAt(i)), unit);
        }
    }

    private static void lost(String when, TwofrontArcade x, int unit, int... due) {
        for (int i = 0; i < CAUSES.length; i++) {
            Due.is("lostDays(" + unit + ", '" + CAUSES[i] + "') " + when, x.lostDays(unit, CAUSES[i]), due[i]);
        }
    }

    // promise 30

    /** "'d', 'n' or 'h'": of all signs there are, these three. */
    private static void threeTradesAlone() {
        TwofrontArcade x = new TwofrontArcade();
        int taken = 0;
        for (int sign = 0; sign <= 0xffff; sign++) {
            char trade = (char) sign;
            if (trade != 'd' && trade != 'n' && trade != 'h') {
                taken += isTaken(x, trade) ? 1 : 0;
            }
        }
        Due.is("trades that are none, but are taken", taken, 0);
        for (char trade : new char[] {0, 'c', 'e', 'g', 'i', 'm', 'o', 'D', 'N', 'H', 'd' + 256, 0xffff}) {
            Due.fails("addCrew of the sign " + (int) trade, x, Due.BAD, () -> x.addCrew(trade));
        }
        Due.is("addCrew('d')", x.addCrew('d'), 0);
        Due.is("addCrew('n')", x.addCrew('n'), 1);
        Due.is("addCrew('h')", x.addCrew('h'), 2);
    }

    private static boolean isTaken(TwofrontArcade x, char trade) {
        try {
            x.addCrew(trade);
            return true;
        } catch (IllegalArgumentException e) {
            return false;
        }
    }

    /** "At most 4 are numbered from 0" */
    private static void atMost4Crews() {
        for (char trade : new char[] {'d', 'n', 'h'}) {
            TwofrontArcade x = Streets.of(1, 12);
            for (int crew = 0; crew < 4; crew++) {
                Due.noSuch("canWork, " + crew + " crews,", x, crew, x::canWork);
                Due.is("addCrew('" + trade + "'), " + crew + " crews", x.addCrew(trade), crew);
            }
            Due.fails("addCrew('" + trade + "'), 4 crews", x, Due.FULL, () -> x.addCrew(trade));
            Due.noSuch("canWork, 4 crews,", x, 4, x::canWork);
        }
    }

    private static void addCrewThrowsTheFirst() {
        TwofrontArcade x = new TwofrontArcade();
        sendAll(x, "dnhd", -1);
        Due.fails("addCrew('x'), 4 crews", x, Due.BAD, () -> x.addCrew('x'));
        Due.fails("addCrew('h'), 4 crews", x, Due.FULL, () -> x.addCrew('h'));
    }

    // promise 31

    private static void sendOfNoSuchCrew() {
        TwofrontArcade x = Streets.of(2, 12);
        sendAll(x, "dnhd", 1);
        Due.noSuch("send(.., 0)", x, 4, crew -> x.send(crew, 0));
        Due.noSuch("send(.., -1)", x, 4, crew -> x.send(crew, -1));
        Due.is("send(0, 0)", x.send(0, 0), 1);
        Due.is("send(3, 0)", x.send(3, 0), 1);
    }

    /** "or unit, but for -1" */
    private static void sendToNoSuchUnitButNone() {
        TwofrontArcade x = Streets.of(10, 12);
        x.addCrew('d');
        x.send(0, 5);
        for (int unit : new int[] {Integer.MIN_VALUE, -2, 10, 11, Integer.MAX_VALUE}) {
            Due.fails("send(0, " + unit + ")", x, Due.NO_SUCH, () -> x.send(0, unit));
        }
        Due.is("send(0, -1)", x.send(0, -1), 5);
        Due.is("send(0, 0)", x.send(0, 0), -1);
        Due.is("send(0, 9)", x.send(0, 9), 0);
        Due.is("send(0, 9), where it is", x.send(0, 9), 9);
        TwofrontArcade y = new TwofrontArcade();
        y.addCrew('d');
        Due.fails("send(0, 0), no units", y, Due.NO_SUCH, () -> y.send(0, 0));
        Due.is("send(0, -1), no units", y.send(0, -1), -1);
    }

    /** "at a unit or at none, as at first"; "-1 for nowhere" */
    private static void atNoneAsAtFirst() {
        TwofrontArcade x = Streets.of(1, 12);
        for (int crew = 0; crew < 4; crew++) {
            x.addCrew('d');
            Due.is("canWork(" + crew + ") at first", x.canWork(crew), false);
            Due.is("send(" + crew + ", 0) at first", x.send(crew, 0), -1);
        }
    }

    // promise 32

    private static void canWorkOfNoSuchCrew() {
        TwofrontArcade x = Streets.withWorksOn(2, 0, 1);
        sendAll(x, "dnhd", 1);
        Due.noSuch("canWork", x, 4, x::canWork);
        Due.is("canWork(0)", x.canWork(0), true);
        Due.is("canWork(3)", x.canWork(3), true);
    }

    /** "a crew at a unit whose work is on": not at none, nor ahead of the work, nor behind it. */
    private static void canWorkAtAWorkThatIsOn() {
        for (char trade : new char[] {'d', 'n', 'h'}) {
            TwofrontArcade x = Streets.of(2, 12);
            x.addCrew(trade);
            Due.is("canWork(0) at none", x.canWork(0), false);
            x.send(0, 1);
            Due.is("canWork(0), no work", x.canWork(0), false);
            x.plan(1, 1);
            x.notice(1, 7);
            x.pass(7);
            Due.is("canWork(0), planned", x.canWork(0), false);
            x.begin(1);
            Due.is("canWork(0), on", x.canWork(0), true);
            x.send(0, 0);
            Due.is("canWork(0) at another unit", x.canWork(0), false);
            x.send(0, 1);
            x.pass(1);
            Due.is("canWork(0), done", x.canWork(0), false);
        }
    }

    /** "but not in a strike": on its last day still, on the next one not. */
    private static void noWorkInAStrike() {
        for (char trade : new char[] {'d', 'n', 'h'}) {
            TwofrontArcade x = Streets.withWorksOn(1, 0);
            x.addCrew(trade);
            x.send(0, 0);
            x.strike(2);
            Due.is("canWork(0), 2 days of strike", x.canWork(0), false);
            x.pass(1);
            Due.is("canWork(0), 1 day of strike", x.canWork(0), false);
            x.pass(1);
            Due.is("canWork(0), no strike", x.canWork(0), true);
            Due.is("left(0) behind a strike", x.left(0), 9);
        }
    }

    /** "a noisy one not on a quiet day": each weekday by its own bit. */
    private static void noisyOnlyIfNotQuiet() {
        for (int quiet = 0; quiet < 7; quiet++) {
            TwofrontArcade x = Streets.of(2, 12);
            x.addWall(0, 1);
            x.addShop(0, 1, 0, false, 1 << quiet, 0);
            Streets.beginAt(x, 60, 1);
            sendAll(x, "ndh", 1);
            for (int day = 7; day < 21; day++) {
                String call = " on the day " + day + ", quiet on the weekday " + quiet;
                Due.is("canWork(0)" + call, x.canWork(0), day % 7 != quiet);
                Due.is("canWork(1)" + call, x.canWork(1), true);
                Due.is("canWork(2)" + call, x.canWork(2), true);
                x.pass(1);
            }
            Due.is("left(1) behind 14 days, 2 of them quiet", x.left(1), 60 - 2 * 2 - 12 * 3);
        }
    }

    /** "of a shop that is in a unit with which its unit has a party wall" */
    private static void noisyBesideAShopInAUnitAlone() {
        TwofrontArcade x = Streets.of(10, 12);
        x.addWall(0, 9);
        x.addShop(9, 1, 0, false, 127, 60);
        x.addShop(1, 1, 0, false, 127, 60);
        Streets.beginAt(x, 9, 0);
        x.addCrew('n');
        x.send(0, 0);
        Due.is("canWork(0), a shop far off, but beyond a wall", x.canWork(0), false);
        x.toStall(0);
        Due.is("canWork(0), that shop on a stall; another one next to it, no wall", x.canWork(0), true);
        x.move(0, 9);
        Due.is("canWork(0), that shop coming back", x.canWork(0), false);
        x.store(0);
        Due.is("canWork(0), that shop shut", x.canWork(0), true);
        x.move(1, 9);
        Due.is("canWork(0), the other shop beyond the wall", x.canWork(0), false);
    }

    /** "a hot one only if no hot crew with a lower number does one": of four, one at a time. */
    private static void hotOnlyIfNoLowerOneDoes() {
        TwofrontArcade x = Streets.withWorksOn(2, 0, 1);
        sendAll(x, "hhhh", 0);
        for (int lowest = 0; lowest < 4; lowest++) {
            for (int crew = 0; crew < 4; crew++) {
                String call = "canWork(" + crew + "), " + lowest + " the lowest one";
                Due.is(call, x.canWork(crew), crew == lowest);
            }
            // the lowest one goes where it can't work; the next one is the lowest one then
            x.send(lowest, -1);
        }
        x.send(3, 0);
        x.send(1, 1);
        Due.is("canWork(3), a lower one at another work", x.canWork(3), false);
        Due.is("canWork(1) at another work", x.canWork(1), true);
        x.strike(1);
        Due.is("canWork(1) in a strike", x.canWork(1), false);
        Due.is("canWork(3) in a strike, in which no lower one works", x.canWork(3), false);
    }

    /** A work is on to the end of its last day, so that each crew at it does a day of it, a hot one too. */
    private static void hotThoughOthersDoTheLastDay() {
        TwofrontArcade x = Streets.of(2, 12);
        Streets.beginAt(x, 1, 0, 1);
        sendAll(x, "dh", 0);
        sendAll(x, "h", 1);
        Due.is("canWork(1), a dusty crew with it", x.canWork(1), true);
        Due.is("canWork(2), a lower hot one working", x.canWork(2), false);
        x.pass(1);
        Due.is("work(0) behind its last day", x.work(0), 'd');
        lost("behind a day of the lower hot crew", x, 1, 0, 0, 0, 1);
        Due.is("canWork(2), the other work done", x.canWork(2), true);
    }

    /** Each crew does a day of it. */
    private static void fourCrewsDoFourDays() {
        for (int crews = 0; crews <= 4; crews++) {
            TwofrontArcade x = Streets.withWorksOn(1, 0);
            sendAll(x, "dddd".substring(0, crews), 0);
            x.pass(1);
            Due.is("left(0) behind a day of " + crews + " crews", x.left(0), 9 - crews);
        }
        TwofrontArcade y = Streets.withWorksOn(1, 0);
        sendAll(y, "dnhh", 0);
        y.pass(1);
        Due.is("left(0) behind a day of four crews, two of them hot", y.left(0), 6);
    }

    // promise 33

    /** "1 to 30" */
    private static void aStrikeOf1To30Days() {
        TwofrontArcade x = Streets.withWorksOn(1, 0);
        x.addCrew('d');
        x.send(0, 0);
        Due.outOfRange("strike", x, 1, 30, x::strike);
        Due.is("strike(1)", x.strike(1), 1);
        Due.outOfRange("strike, in one,", x, 1, 30, x::strike);
        x.pass(1);
        Due.is("canWork(0) behind a strike of 1 day", x.canWork(0), true);
        Due.is("strike(30)", x.strike(30), 30);
        x.pass(29);
        Due.is("canWork(0) on the 30th day", x.canWork(0), false);
        x.pass(1);
        Due.is("canWork(0) behind a strike of 30 days", x.canWork(0), true);
        Due.is("lostDays(0, 's')", x.lostDays(0, 's'), 31);
    }

    /** "or till a later end of another one": an earlier end, the same one, and a later one. */
    private static void aStrikeTillALaterEnd() {
        TwofrontArcade x = new TwofrontArcade();
        Due.is("strike(10)", x.strike(10), 10);
        Due.is("strike(9), an earlier end", x.strike(9), 10);
        Due.is("strike(10), the same end", x.strike(10), 10);
        Due.is("strike(11), a later end", x.strike(11), 11);
        Due.is("strike(1), an earlier end", x.strike(1), 11);
        x.pass(5);
        Due.is("strike(5), an earlier end", x.strike(5), 6);
        Due.is("strike(6), the same end", x.strike(6), 6);
        Due.is("strike(7), a later end", x.strike(7), 7);
        Due.is("strike(30), not 37", x.strike(30), 30);
    }

    /** "A strike lasts for some days, from now on": behind its end there is none. */
    private static void aStrikeFromNowOn() {
        TwofrontArcade x = new TwofrontArcade();
        x.strike(3);
        x.pass(2);
        Due.is("strike(1) on the last day", x.strike(1), 1);
        x.pass(1);
        Due.is("strike(1) behind it", x.strike(1), 1);
        x.pass(30);
        Due.is("strike(2) long behind it", x.strike(2), 2);
    }

    // promise 34

    private static void lostDaysOfNoSuchUnit() {
        TwofrontArcade x = Streets.withWorksOn(10, 0, 9);
        x.pass(2);
        for (char cause : CAUSES) {
            Due.noSuch("lostDays(.., '" + cause + "')", x, 10, unit -> x.lostDays(unit, cause));
        }
        lost("at two works without crews", x, 0, 0, 2, 0, 0);
        lost("at two works without crews", x, 9, 0, 2, 0, 0);
    }

    /** "if there is no such cause" */
    private static void fourCausesAlone() {
        TwofrontArcade x = Streets.of(1, 12);
        for (char cause : new char[] {0, 'S', 'C', 'Q', 'P', 'b', 'd', 'o', 'r', 't', 'h', 'm', 's' + 256}) {
            Due.fails("lostDays of the sign " + (int) cause, x, Due.BAD, () -> x.lostDays(0, cause));
        }
        lost("at first", x, 0, 0, 0, 0, 0);
    }

    private static void lostDaysThrowsTheFirst() {
        TwofrontArcade x = Streets.of(10, 12);
        Due.noSuch("lostDays(.., 'x')", x, 10, unit -> x.lostDays(unit, 'x'));
    }

    /** "0 without a work" */
    private static void noneLostWithoutAWork() {
        TwofrontArcade x = Streets.of(2, 12);
        x.strike(5);
        x.addCrew('n');
        x.send(0, 0);
        x.pass(10);
        lost("without a work", x, 0, 0, 0, 0, 0);
        lost("without a work", x, 1, 0, 0, 0, 0);
    }

    /** "A work of which nothing is done on a day loses that day": not ahead of its begin, nor behind its end. */
    private static void noneLostUnlessOn() {
        TwofrontArcade x = Streets.of(1, 12);
        x.plan(0, 1);
        x.notice(0, 7);
        x.strike(3);
        x.pass(7);
        lost("planned", x, 0, 0, 0, 0, 0);
        x.begin(0);
        lost("begun today", x, 0, 0, 0, 0, 0);
        x.addCrew('d');
        x.send(0, 0);
        x.pass(1);
        x.send(0, -1);
        x.strike(1);
        x.pass(2);
        lost("done", x, 0, 0, 0, 0, 0);
    }

    /** One crew of four is enough. */
    private static void noneLostIfAnythingIsDone() {
        TwofrontArcade x = Streets.of(2, 12);
        x.addWall(0, 1);
        x.addShop(1, 1, 0, false, 127, 0);
        Streets.beginAt(x, 9, 0);
        sendAll(x, "nnnd", 0);
        x.pass(3);
        lost("by three noisy crews that may not, and a dusty one", x, 0, 0, 0, 0, 0);
        Due.is("left(0)", x.left(0), 6);
    }

    /** "'s' a strike": ahead of all other causes. */
    private static void lostByAStrike() {
        TwofrontArcade x = Streets.of(4, 12);
        x.addWall(0, 1);
        x.addShop(1, 1, 0, false, 127, 0);
        Streets.beginAt(x, 9, 0, 3);
        x.strike(3);
        x.pass(1);
        lost("no crew", x, 0, 1, 0, 0, 0);
        sendAll(x, "nhh", 0);
        x.send(1, 3);
        x.pass(1);
        lost("a noisy crew that may not", x, 0, 2, 0, 0, 0);
        x.send(0, -1);
        x.pass(1);
        lost("a hot crew that may not", x, 0, 3, 0, 0, 0);
        x.pass(1);
        lost("behind the strike", x, 0, 3, 0, 0, 1);
        lost("a hot crew", x, 3, 3, 0, 0, 0);
    }

    /** "'c' no crew at it": crews elsewhere do not count. */
    private static void lostByNoCrew() {
        TwofrontArcade x = Streets.withWorksOn(4, 0, 3);
        x.pass(1);
        lost("no crews", x, 0, 0, 1, 0, 0);
        sendAll(x, "dnhh", 3);
        x.send(3, -1);
        x.pass(1);
        lost("crews elsewhere", x, 0, 0, 2, 0, 0);
        lost("crews", x, 3, 0, 1, 0, 0);
    }

    /** "'q' a noisy crew at it that may not": ahead of a hot one that may not. */
    private static void lostByAQuietDay() {
        TwofrontArcade x = Streets.of(4, 12);
        x.addWall(0, 1);
        x.addShop(1, 1, 0, false, 1 | 4, 0);
        Streets.beginAt(x, 9, 0, 3);
        sendAll(x, "hhn", 0);
        x.send(0, 3);
        x.pass(1);
        lost("a noisy and a hot crew that may not", x, 0, 0, 0, 1, 0);
        x.pass(1);
        lost("a noisy crew that may", x, 0, 0, 0, 1, 0);
        x.send(1, -1);
        x.pass(1);
        lost("a noisy crew that may not", x, 0, 0, 0, 2, 0);
        Due.is("left(0)", x.left(0), 8);
    }

    /** "'p' otherwise": hot crews whose day a lower one does elsewhere. */
    private static void lostOtherwise() {
        TwofrontArcade x = Streets.withWorksOn(4, 0, 3);
        sendAll(x, "hhhh", 0);
        x.send(0, 3);
        x.pass(2);
        lost("three hot crews that may not", x, 0, 0, 0, 0, 2);
        lost("a hot crew that may", x, 3, 0, 0, 0, 0);
        x.send(0, -1);
        x.pass(1);
        lost("hot crews of which one may", x, 0, 0, 0, 0, 2);
        lost("no crew", x, 3, 0, 1, 0, 0);
    }

    /** All lost and done days of one crew's work are the days that went by. */
    private static void eachDayIsLostOnce() {
        TwofrontArcade x = Streets.of(4, 12);
        x.addWall(0, 1);
        x.addShop(1, 1, 0, false, 8, 0);
        Streets.beginAt(x, 60, 0);
        x.addCrew('n');
        for (int day = 0; day < 30; day++) {
            x.send(0, day % 5 == 0 ? -1 : 0);
            if (day % 9 == 0) {
                x.strike(1);
            }
            x.pass(1);
            int sum = 60 - x.left(0);
            for (char cause : CAUSES) {
                sum += x.lostDays(0, cause);
            }
            Due.is("days lost and done behind " + (day + 1) + " days", sum, day + 1);
        }
        // strikes on 0, 9, 18, 27; away on 5, 10, 15, 20, 25; quiet on 3, 10, 17, 24
        lost("behind 30 days", x, 0, 4, 5, 3, 0);
    }
}
