/** Promises 35 and 36: the shortest programme, by hand and against a search through all starts. */
public final class ProgrammeTest {
    private static final int STREETS = 1500;
    private static final int UNITS = 7;

    private static long seed = 20261119;

    public static void main(String[] args) {
        withoutWorks();
        twoAtOnce();
        besideAWall();
        ahead();
        worksOn();
        lowestFirst();
        aBreakWouldHelp();
        longOnes();
        startInAlone();
        moreThanFive();
        wrongInputs();
        for (int street = 0; street < STREETS; street++) {
            againstAllStarts(street);
        }
        Due.end("ProgrammeTest");
    }

    private static TwofrontArcade planned(int... days) {
        TwofrontArcade x = Streets.of(10, 12);
        for (int unit = 0; unit < days.length; unit++) {
            x.plan(unit, days[unit]);
        }
        return x;
    }

    private static void programme(String what, TwofrontArcade x, int days, int... starts) {
        Due.is("shortest(), " + what, x.shortest(), days);
        for (int unit = 0; unit < starts.length; unit++) {
            if (starts[unit] >= 0) {
                Due.is("startIn(" + unit + "), " + what, x.startIn(unit), starts[unit]);
            }
        }
        String before = Due.stateOf(x);
        x.shortest();
        Due.is("shortest() changes nothing, " + what, Due.stateOf(x), before);
    }

    private static void withoutWorks() {
        programme("no works", planned(), 0);
        programme("one work", planned(60), 60, 0);
    }

    private static void twoAtOnce() {
        programme("two", planned(3, 5), 5, 0, 0);
        programme("three", planned(3, 5, 4), 7, 0, 0, 3);
        // 4 and 3 days, beside 3, 2 and 2
        programme("five", planned(4, 3, 3, 2, 2), 7, 0, 0, 4, 3, 5);
    }

    private static void besideAWall() {
        TwofrontArcade x = planned(3, 5);
        x.addWall(0, 1);
        programme("a wall", x, 8, 0, 3);
        TwofrontArcade y = planned(2, 3, 2);
        y.addWall(1, 0);
        y.addWall(1, 2);
        programme("two walls", y, 5, 0, 2, 0);
    }

    private static void ahead() {
        TwofrontArcade x = planned(3, 5, 1);
        x.rest(0, 1);
        x.rest(1, 2);
        programme("a chain", x, 9, 6, 1, 0);
        // just one order of five has each behind all on which it rests
        TwofrontArcade z = planned(1, 2, 3, 4, 5);
        for (int unit = 0; unit < 4; unit++) {
            z.rest(unit, unit + 1);
        }
        programme("a chain of five", z, 15, 14, 12, 9, 5, 0);
        TwofrontArcade y = Streets.of(3, 12);
        y.plan(0, 1);
        y.notice(0, 7);
        y.pass(7);
        y.addCrew('n');
        Streets.finish(y, 0);
        y.plan(1, 4);
        y.rest(1, 0);
        programme("one that is done", y, 4, -1, 0);
    }

    private static void worksOn() {
        TwofrontArcade x = Streets.withWorksOn(6, 1);
        x.addCrew('d');
        x.send(0, 1);
        x.pass(2);
        programme("one on", x, 7);
        x.plan(3, 2);
        x.plan(0, 2);
        x.addWall(0, 3);
        programme("one on, two planned", x, 7, 0, -1, -1, 2);
        x.find(1, 10);
        programme("one on, by a find", x, 17, 0, -1, -1, 2);
        TwofrontArcade y = Streets.withWorksOn(6, 1, 5);
        y.plan(0, 3);
        programme("two on", y, 12, 9);
        y.find(1, 1);
        programme("two on, one for longer", y, 12, 9);
        y.rest(0, 1);
        programme("two on, one for longer, rested on", y, 13, 10);
        TwofrontArcade z = Streets.of(6, 12);
        z.addWall(0, 1);
        Streets.beginAt(z, 9, 1);
        z.plan(0, 3);
        programme("one on beyond a wall", z, 12, 9);
    }

    private static void lowestFirst() {
        programme("equal ones", planned(2, 2, 2, 2, 2), 6, 0, 0, 2, 2, 4);
        // to begin 0 with 1 would take 8 days
        programme("the long one first", planned(2, 2, 4), 4, 0, 2, 0);
        programme("room to spare", planned(1, 1, 9), 9, 0, 1, 0);
    }

    /** With breaks, three works of 2 days would be done in 3. */
    private static void aBreakWouldHelp() {
        programme("without a break", planned(2, 2, 2), 4, 0, 0, 2);
        TwofrontArcade x = planned(4, 3, 6, 3);
        x.addWall(0, 1);
        x.rest(1, 3);
        programme("walls and rests", x, 9, 0, 4, 3, 0);
    }

    private static void longOnes() {
        TwofrontArcade x = planned(60, 60, 60, 60, 60);
        for (int one = 0; one < 5; one++) {
            for (int other = one + 1; other < 5; other++) {
                x.addWall(one, other);
            }
        }
        programme("all beside each other", x, 300, 0, 60, 120, 180, 240);
    }

    private static void startInAlone() {
        TwofrontArcade x = planned(2, 3, 2);
        Due.is("startIn(2) ahead of shortest()", x.startIn(2), 2);
        x.rest(0, 2);
        Due.is("startIn(0) behind a change", x.startIn(0), 2);
        Due.is("startIn(2) behind a change", x.startIn(2), 0);
    }

    private static void moreThanFive() {
        TwofrontArcade x = planned(1, 1, 1, 1, 1, 1);
        Due.fails("shortest() of six", x, Due.MAY_NOT, x::shortest);
        Due.fails("startIn(0) of six", x, Due.MAY_NOT, () -> x.startIn(0));
        Due.fails("startIn(9) of six, no work", x, Due.MAY_NOT, () -> x.startIn(9));
        Due.fails("startIn(10) of six", x, Due.NO_SUCH, () -> x.startIn(10));
        x.notice(0, 7);
        x.notice(1, 7);
        x.pass(7);
        x.begin(0);
        programme("five and one on", x, 3, -1, 0, 1, 1, 2, 2);
        x.begin(1);
        x.plan(6, 1);
        programme("five and two on", x, 4, -1, -1, 1, 1, 2, 2, 3);
        x.plan(7, 1);
        Due.fails("shortest() of six and two on", x, Due.MAY_NOT, x::shortest);
    }

    private static void wrongInputs() {
        TwofrontArcade x = Streets.withWorksOn(3, 0);
        Due.fails("startIn(3)", x, Due.NO_SUCH, () -> x.startIn(3));
        Due.fails("startIn(-1)", x, Due.NO_SUCH, () -> x.startIn(-1));
        Due.fails("startIn(0), on", x, Due.NONE, () -> x.startIn(0));
        Due.fails("startIn(1), no work", x, Due.NONE, () -> x.startIn(1));
        x.addCrew('n');
        x.send(0, 0);
        x.pass(9);
        Due.fails("startIn(0), done", x, Due.NONE, () -> x.startIn(0));
    }

    // a search through all starts, day by day

    /** Numbers that look like chance, the same in every run. */
    private static int chance(int bound) {
        seed = seed * 6364136223846793005L + 1442695040888963407L;
        return (int) ((seed >>> 33) % bound);
    }

    private static void againstAllStarts(int street) {
        TwofrontArcade x = Streets.of(UNITS, 12);
        boolean[][] walls = new boolean[UNITS][UNITS];
        boolean[][] rests = new boolean[UNITS][UNITS];
        int on = chance(3);
        int works = on + chance(6);
        int most = works > 5 ? 3 : 4;
        int[] units = shuffled();
        for (int i = 0; i < works; i++) {
            x.plan(units[i], 1 + chance(most));
        }
        for (int i = 0; i < on; i++) {
            x.notice(units[i], 7);
        }
        for (int i = chance(9); i > 0; i--) {
            wall(x, walls, chance(UNITS), chance(UNITS));
        }
        x.pass(7);
        for (int i = 0; i < on; i++) {
            if (x.whyNot(units[i]) == '-') {
                x.begin(units[i]);
            }
        }
        for (int i = chance(5); i > 0 && works > 0; i--) {
            rest(x, rests, units[chance(works)], units[chance(works)]);
        }
        compare(street, x, walls, rests);
    }

    private static int[] shuffled() {
        int[] units = new int[UNITS];
        for (int i = 0; i < UNITS; i++) {
            int at = chance(i + 1);
            units[i] = units[at];
            units[at] = i;
        }
        return units;
    }

    private static void wall(TwofrontArcade x, boolean[][] walls, int one, int other) {
        if (one != other && !walls[one][other]) {
            x.addWall(one, other);
            walls[one][other] = true;
            walls[other][one] = true;
        }
    }

    private static void rest(TwofrontArcade x, boolean[][] rests, int one, int other) {
        try {
            x.rest(one, other);
            rests[one][other] = true;
        } catch (IllegalArgumentException | UnsupportedOperationException e) {
            return;
        }
    }

    private static void compare(int street, TwofrontArcade x, boolean[][] walls, boolean[][] rests) {
        int[] lengths = new int[UNITS];
        boolean[] isFree = new boolean[UNITS];
        int planned = 0;
        for (int unit = 0; unit < UNITS; unit++) {
            char work = stateOf(x, unit);
            lengths[unit] = work == '-' ? 0 : x.left(unit);
            isFree[unit] = work == 'p';
            planned += isFree[unit] ? 1 : 0;
        }
        if (planned > 5) {
            Due.fails("shortest() of the street " + street, x, Due.MAY_NOT, x::shortest);
            return;
        }
        int[] starts = new int[UNITS];
        int days = 0;
        // one behind another all works take less than that
        while (days < 40 && !isThere(0, days, lengths, isFree, walls, rests, starts)) {
            days++;
        }
        Due.is("shortest() of the street " + street, x.shortest(), days);
        for (int unit = 0; unit < UNITS; unit++) {
            if (isFree[unit]) {
                Due.is("startIn(" + unit + ") of the street " + street, x.startIn(unit), starts[unit]);
            }
        }
    }

    private static char stateOf(TwofrontArcade x, int unit) {
        try {
            return x.work(unit);
        } catch (java.util.NoSuchElementException e) {
            return '-';
        }
    }

    /** Tries starts by units from the lowest one: the first programme of so many days is the one that is due. */
    private static boolean isThere(int unit, int days, int[] lengths, boolean[] isFree, boolean[][] walls,
            boolean[][] rests, int[] starts) {
        if (unit == UNITS) {
            return isAllowed(days, lengths, walls, rests, starts);
        }
        int last = isFree[unit] ? days - lengths[unit] : 0;
        for (int start = 0; start <= last && lengths[unit] <= days; start++) {
            starts[unit] = start;
            if (isFine(unit, lengths, walls, rests, starts)
                    && isThere(unit + 1, days, lengths, isFree, walls, rests, starts)) {
                return true;
            }
        }
        return false;
    }

    private static boolean isFine(int unit, int[] lengths, boolean[][] walls, boolean[][] rests, int[] starts) {
        for (int other = 0; other < unit; other++) {
            boolean isApart = starts[unit] >= starts[other] + lengths[other]
                    || starts[other] >= starts[unit] + lengths[unit];
            boolean isWrong = walls[unit][other] && !isApart
                    || rests[unit][other] && starts[unit] < starts[other] + lengths[other]
                    || rests[other][unit] && starts[other] < starts[unit] + lengths[unit];
            if (isWrong && lengths[unit] > 0 && lengths[other] > 0) {
                return false;
            }
        }
        return true;
    }

    private static boolean isAllowed(int days, int[] lengths, boolean[][] walls, boolean[][] rests, int[] starts) {
        for (int day = 0; day < days; day++) {
            int on = 0;
            for (int unit = 0; unit < UNITS; unit++) {
                on += starts[unit] <= day && day < starts[unit] + lengths[unit] ? 1 : 0;
            }
            if (on > 2) {
                return false;
            }
        }
        return true;
    }
}
