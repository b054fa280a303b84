import java.util.NoSuchElementException;

/** A street of shops under one roof that is rebuilt two fronts at a time while people buy. */
public final class TwofrontArcade {
    private static final int MOST_UNITS = 10;
    private static final int LEAST_WIDTH = 4;
    private static final int MOST_WIDTH = 12;
    private static final int HOARDING_METRES = 2;
    private static final int PEOPLE_PER_METRE = 25;

    private static final char NO_WORK = '-';
    private static final char PLANNED = 'p';
    private static final char ON = 'w';
    private static final char DONE = 'd';
    private static final char CAN_BEGIN = '-';
    private static final int MOST_WORK_DAYS = 60;
    private static final int MOST_WORKS_ON = 2;
    private static final int DAYS_AHEAD = 7;
    private static final int NO_NOTICE = -1;
    private static final int MOST_FIND_DAYS = 30;
    private static final int MOST_DAYS_LEFT = 99;

    private static final int MOST_SHOPS = 10;
    private static final char IN_UNIT = 'o';
    private static final char ON_STALL = 't';
    private static final char SHUT = 's';
    private static final int STALLS = 2;
    private static final int STALL_PLACE = 0;
    private static final int MOST_PULL = 9;
    private static final int MOST_SHOP_PEOPLE = 99;
    private static final int MOST_QUIET = 127;
    private static final int MOST_SHUT_DAYS = 60;
    private static final int WHOLE = 100;
    private static final int HIDDEN_BY_HOARDING = 20;
    private static final int SIGHT_UNITS = 2;
    private static final int KNOWN_ON_COMING = 60;
    private static final int LEARNED_A_DAY = 5;
    private static final int FORGOTTEN_A_DAY = 2;
    private static final int RENT_PART = 10;

    private static final int WEEK = 7;
    private static final int LAST_DAY = 999;
    private static final int MOST_PASSED = 30;
    private static final int MOST_PEOPLE = 999;
    private static final int PEOPLE_AT_FIRST = 100;

    private static final int MOST_CREWS = 4;
    private static final char DUSTY = 'd';
    private static final char NOISY = 'n';
    private static final char HOT = 'h';
    private static final int NOWHERE = -1;
    private static final int MOST_STRIKE = 30;

    private static final int CAUSES = 4;
    private static final int NO_CAUSE = -1;
    private static final int DAY_BY_STRIKE = 0;
    private static final int DAY_BY_NO_CREW = 1;
    private static final int DAY_BY_QUIET = 2;
    private static final int DAY_BY_OTHER = 3;
    private static final int LOSS_BY_HOARDING = 0;
    private static final int LOSS_BY_MOVE = 1;
    private static final int LOSS_BY_DUST = 2;
    private static final int LOSS_BY_SHUT = 3;

    private static final int MOST_PROGRAMMED = 5;
    private static final int MOST_ORDERS = 120;
    private static final int LONGER_THAN_ANY = 1_000_000;

    private static final int NO_SHOP = -1;

    private final Unit[] units = new Unit[MOST_UNITS];
    private final Shop[] shops = new Shop[MOST_SHOPS];
    private final Crew[] crews = new Crew[MOST_CREWS];
    private final int[] peopleOn = new int[WEEK];
    private final Programme programme = new Programme();
    private int unitCount = 0;
    private int shopCount = 0;
    private int crewCount = 0;
    private int today = 0;
    private int strikeDays = 0;

    public TwofrontArcade() {
        for (int i = 0; i < MOST_UNITS; i++) {
            units[i] = new Unit();
        }
        for (int i = 0; i < MOST_SHOPS; i++) {
            shops[i] = new Shop();
        }
        for (int i = 0; i < MOST_CREWS; i++) {
            crews[i] = new Crew();
        }
        for (int i = 0; i < WEEK; i++) {
            peopleOn[i] = PEOPLE_AT_FIRST;
        }
    }

    // units and works

    public int addUnit(int width)
            throws IllegalArgumentException, UnsupportedOperationException, IllegalStateException {
        needRange(width, LEAST_WIDTH, MOST_WIDTH);
        if (shopCount > 0) {
            throw new UnsupportedOperationException("there is a shop");
        }
        if (unitCount >= MOST_UNITS) {
            throw new IllegalStateException("there is no room for another unit");
        }
        units[unitCount].width = width;
        unitCount++;
        return unitCount - 1;
    }

    public int addWall(int unit, int other)
            throws IndexOutOfBoundsException, IllegalArgumentException, UnsupportedOperationException {
        needUnit(unit);
        needUnit(other);
        if (unit == other) {
            throw new IllegalArgumentException("a unit has no party wall with itself");
        }
        if (haveWall(unit, other) || units[unit].isOn() || units[other].isOn()) {
            throw new UnsupportedOperationException("they have a party wall or a work is on");
        }
        units[unit].walls |= bit(other);
        units[other].walls |= bit(unit);
        return Integer.bitCount(units[unit].walls);
    }

    public int plan(int unit, int days)
            throws IndexOutOfBoundsException, IllegalArgumentException, UnsupportedOperationException {
        needUnit(unit);
        needRange(days, 1, MOST_WORK_DAYS);
        if (units[unit].hasWork()) {
            throw new UnsupportedOperationException("the unit has a work");
        }
        units[unit].work = PLANNED;
        units[unit].daysLeft = days;
        return Integer.bitCount(unitsWithWork(PLANNED) | unitsWithWork(ON));
    }

    public boolean rest(int unit, int other)
            throws IndexOutOfBoundsException, UnsupportedOperationException, IllegalArgumentException {
        needUnit(unit);
        needUnit(other);
        if (!units[unit].isPlanned() || !units[other].hasWork()) {
            throw new UnsupportedOperationException("a work is missing, or the first one was begun");
        }
        if (unit == other || hasBit(allRestsOf(other), unit)) {
            throw new IllegalArgumentException("a work would rest on itself");
        }
        boolean restedAlready = hasBit(allRestsOf(unit), other);
        units[unit].restsOn |= bit(other);
        return restedAlready;
    }

    public int notice(int unit, int day)
            throws IndexOutOfBoundsException, UnsupportedOperationException, IllegalArgumentException {
        needUnit(unit);
        if (!units[unit].isPlanned()) {
            throw new UnsupportedOperationException("there is no work, or it was begun");
        }
        needRange(day, today + DAYS_AHEAD, LAST_DAY);
        units[unit].noticeDay = day;
        return day - today;
    }

    public char work(int unit) throws IndexOutOfBoundsException, NoSuchElementException {
        needUnit(unit);
        needWork(unit);
        return units[unit].work;
    }

    public int left(int unit) throws IndexOutOfBoundsException, NoSuchElementException {
        needUnit(unit);
        needWork(unit);
        return units[unit].daysLeft;
    }

    public char whyNot(int unit) throws IndexOutOfBoundsException, NoSuchElementException {
        needUnit(unit);
        needWork(unit);
        return hindrance(unit);
    }

    public int begin(int unit) throws IndexOutOfBoundsException, UnsupportedOperationException {
        needUnit(unit);
        if (!units[unit].hasWork() || hindrance(unit) != CAN_BEGIN) {
            throw new UnsupportedOperationException("there is no work, or it cannot begin");
        }
        units[unit].work = ON;
        return Integer.bitCount(unitsWithWork(ON));
    }

    public int find(int unit, int days)
            throws IndexOutOfBoundsException, IllegalArgumentException, UnsupportedOperationException {
        needUnit(unit);
        needRange(days, 1, MOST_FIND_DAYS);
        if (!units[unit].isOn() || units[unit].daysLeft + days > MOST_DAYS_LEFT) {
            throw new UnsupportedOperationException("no work is on, or too many days would be left");
        }
        units[unit].daysLeft += days;
        return units[unit].daysLeft;
    }

    // shops

    public int addShop(int unit, int pull, int people, boolean isClean, int quiet, int days)
            throws IndexOutOfBoundsException, IllegalArgumentException, UnsupportedOperationException,
            IllegalStateException {
        needUnit(unit);
        needRange(pull, 1, MOST_PULL);
        needRange(people, 0, MOST_SHOP_PEOPLE);
        needRange(quiet, 0, MOST_QUIET);
        needRange(days, 0, MOST_SHUT_DAYS);
        if (!isFree(unit) || !canGoOutFrom(unit, people, NO_SHOP)) {
            throw new UnsupportedOperationException("the unit is taken, or the ways out too narrow");
        }
        if (shopCount >= MOST_SHOPS) {
            throw new IllegalStateException("there is no room for another shop");
        }
        Shop shop = shops[shopCount];
        shop.home = unit;
        shop.unit = unit;
        shop.pull = pull;
        shop.people = people;
        shop.isClean = isClean;
        shop.quietDays = quiet;
        shop.lease = days;
        shopCount++;
        return shopCount - 1;
    }

    public char state(int shop) throws IndexOutOfBoundsException {
        needShop(shop);
        return shops[shop].state;
    }

    public int unitOf(int shop) throws IndexOutOfBoundsException, NoSuchElementException {
        needShop(shop);
        if (shops[shop].state != IN_UNIT) {
            throw new NoSuchElementException("the shop is in no unit");
        }
        return shops[shop].unit;
    }

    public int homeOf(int shop) throws IndexOutOfBoundsException {
        needShop(shop);
        return shops[shop].home;
    }

    public int move(int shop, int unit) throws IndexOutOfBoundsException, UnsupportedOperationException {
        needShop(shop);
        needUnit(unit);
        needShutDay(shop);
        if (!isFree(unit) || !canGoOutFrom(unit, shops[shop].people, shop)) {
            throw new UnsupportedOperationException("the unit is taken, or the ways out too narrow");
        }
        shops[shop].comeTo(IN_UNIT, unit);
        return shops[shop].shutDaysLeft();
    }

    public int toStall(int shop) throws IndexOutOfBoundsException, UnsupportedOperationException {
        needShop(shop);
        needShutDay(shop);
        if (shops[shop].state == ON_STALL || freeStalls() <= 0
                || !canGoOutFrom(STALL_PLACE, shops[shop].people, shop)) {
            throw new UnsupportedOperationException("no stall for it, or the ways out too narrow");
        }
        shops[shop].comeTo(ON_STALL, NOWHERE);
        return freeStalls();
    }

    public int store(int shop) throws IndexOutOfBoundsException, UnsupportedOperationException {
        needShop(shop);
        needShutDay(shop);
        if (shops[shop].state == SHUT) {
            throw new UnsupportedOperationException("the shop is shut");
        }
        shops[shop].shut();
        return shops[shop].shutDaysLeft();
    }

    public boolean comes(int shop) throws IndexOutOfBoundsException {
        needShop(shop);
        return shops[shop].isComing;
    }

    public int mayBeShut(int shop) throws IndexOutOfBoundsException {
        needShop(shop);
        return shops[shop].shutDaysLeft();
    }

    public int seen(int shop) throws IndexOutOfBoundsException {
        needShop(shop);
        return shops[shop].isOpen() ? hundredthsSeenAt(shops[shop].place()) : 0;
    }

    public int known(int shop) throws IndexOutOfBoundsException {
        needShop(shop);
        return shops[shop].known;
    }

    public boolean isDusty(int shop) throws IndexOutOfBoundsException {
        needShop(shop);
        return hasDust(shops[shop]);
    }

    // ways out and days

    public int flow(int unit) throws IndexOutOfBoundsException {
        needUnit(unit);
        return peoplePast(unit, NO_SHOP);
    }

    public int room(int unit) throws IndexOutOfBoundsException {
        needUnit(unit);
        return units[unit].peopleAllowed();
    }

    public boolean areWide() {
        for (int unit = 0; unit < unitCount; unit++) {
            if (peoplePast(unit, NO_SHOP) > units[unit].peopleAllowed()) {
                return false;
            }
        }
        return true;
    }

    public int setPeople(int weekday, int people) throws IllegalArgumentException {
        needRange(weekday, 0, WEEK - 1);
        needRange(people, 0, MOST_PEOPLE);
        int before = peopleOn[weekday];
        peopleOn[weekday] = people;
        return before;
    }

    public int pass(int days)
            throws IllegalArgumentException, UnsupportedOperationException, IllegalStateException {
        needRange(days, 1, MOST_PASSED);
        for (int i = 0; i < shopCount; i++) {
            if (shops[i].shutDaysWithin(days) > shops[i].shutDaysLeft()) {
                throw new UnsupportedOperationException("a shop would be shut on too many days");
            }
        }
        if (today + days > LAST_DAY) {
            throw new IllegalStateException("the day would be too late");
        }
        for (int i = 0; i < days; i++) {
            passOneDay();
        }
        return today;
    }

    public int day() {
        return today;
    }

    // crews

    public int addCrew(char trade) throws IllegalArgumentException, IllegalStateException {
        if (trade != DUSTY && trade != NOISY && trade != HOT) {
            throw new IllegalArgumentException("there is no such trade");
        }
        if (crewCount >= MOST_CREWS) {
            throw new IllegalStateException("there is no room for another crew");
        }
        crews[crewCount].trade = trade;
        crewCount++;
        return crewCount - 1;
    }

    public int send(int crew, int unit) throws IndexOutOfBoundsException {
        needCrew(crew);
        if (unit != NOWHERE) {
            needUnit(unit);
        }
        int before = crews[crew].unit;
        crews[crew].unit = unit;
        return before;
    }

    public boolean canWork(int crew) throws IndexOutOfBoundsException {
        needCrew(crew);
        return doesADay(crew);
    }

    public int strike(int days) throws IllegalArgumentException {
        needRange(days, 1, MOST_STRIKE);
        strikeDays = Math.max(strikeDays, days);
        return strikeDays;
    }

    public int lostDays(int unit, char cause) throws IndexOutOfBoundsException, IllegalArgumentException {
        needUnit(unit);
        int index = dayCause(cause);
        if (index == NO_CAUSE) {
            throw new IllegalArgumentException("there is no such cause");
        }
        return units[unit].daysLost[index];
    }

    // programmes and money

    public int shortest() throws UnsupportedOperationException {
        needFewPlanned();
        programme.seek(units, unitCount);
        return programme.bestDays;
    }

    public int startIn(int unit)
            throws IndexOutOfBoundsException, UnsupportedOperationException, NoSuchElementException {
        needUnit(unit);
        needFewPlanned();
        if (!units[unit].isPlanned()) {
            throw new NoSuchElementException("there is no work that was not begun");
        }
        programme.seek(units, unitCount);
        return programme.bestStarts[unit];
    }

    public long took(int shop) throws IndexOutOfBoundsException {
        needShop(shop);
        return shops[shop].taken;
    }

    public long lost(int shop, char cause) throws IndexOutOfBoundsException, IllegalArgumentException {
        needShop(shop);
        int index = lossCause(cause);
        if (index == NO_CAUSE) {
            throw new IllegalArgumentException("there is no such cause");
        }
        return shops[shop].losses[index];
    }

    public long rent(int shop) throws IndexOutOfBoundsException {
        needShop(shop);
        return shops[shop].taken / RENT_PART;
    }

    public long fund() {
        long sum = 0;
        for (int i = 0; i < shopCount; i++) {
            sum += shops[i].lossByWorks() / 2;
        }
        return sum;
    }

    // sums

    public long checksum() {
        long sum = 7;
        for (int i = 0; i < shopCount; i++) {
            sum = 31 * sum + shops[i].taken;
            sum = 31 * sum + shops[i].known;
            sum = 31 * sum + shops[i].state;
        }
        for (int i = 0; i < unitCount; i++) {
            sum = 31 * sum + units[i].daysLeft;
        }
        return 31 * sum + today;
    }

    public float openShare() throws NoSuchElementException {
        needAShop();
        int open = 0;
        for (int i = 0; i < shopCount; i++) {
            if (shops[i].isOpen()) {
                open++;
            }
        }
        return (float) open / (float) shopCount;
    }

    public double meanTaken() throws NoSuchElementException {
        needAShop();
        long sum = 0;
        for (int i = 0; i < shopCount; i++) {
            sum += shops[i].taken;
        }
        return (double) sum / (double) shopCount;
    }

    public boolean isSound() {
        return areWorksSound() && areUnitsSound() && areWide() && areShopsSound();
    }

    // what the calls need

    private static void needRange(int number, int least, int most) throws IllegalArgumentException {
        if (number < least || number > most) {
            throw new IllegalArgumentException("a number is out of range");
        }
    }

    private void needUnit(int unit) throws IndexOutOfBoundsException {
        if (unit < 0 || unit >= unitCount) {
            throw new IndexOutOfBoundsException("there is no such unit");
        }
    }

    private void needShop(int shop) throws IndexOutOfBoundsException {
        if (shop < 0 || shop >= shopCount) {
            throw new IndexOutOfBoundsException("there is no such shop");
        }
    }

    private void needCrew(int crew) throws IndexOutOfBoundsException {
        if (crew < 0 || crew >= crewCount) {
            throw new IndexOutOfBoundsException("there is no such crew");
        }
    }

    private void needWork(int unit) throws NoSuchElementException {
        if (!units[unit].hasWork()) {
            throw new NoSuchElementException("the unit has no work");
        }
    }

    private void needShutDay(int shop) throws UnsupportedOperationException {
        if (shops[shop].shutDaysLeft() < 1) {
            throw new UnsupportedOperationException("the shop may not be shut for a day");
        }
    }

    private void needFewPlanned() throws UnsupportedOperationException {
        if (Integer.bitCount(unitsWithWork(PLANNED)) > MOST_PROGRAMMED) {
            throw new UnsupportedOperationException("too many works were not begun");
        }
    }

    private void needAShop() throws NoSuchElementException {
        if (shopCount == 0) {
            throw new NoSuchElementException("there are no shops");
        }
    }

    // sets of units are held as bits

    private static int bit(int unit) {
        return 1 << unit;
    }

    private static boolean hasBit(int bits, int unit) {
        return (bits & bit(unit)) != 0;
    }

    private int unitsWithWork(char state) {
        int bits = 0;
        for (int unit = 0; unit < unitCount; unit++) {
            if (units[unit].work == state) {
                bits |= bit(unit);
            }
        }
        return bits;
    }

    private boolean haveWall(int unit, int other) {
        return hasBit(units[unit].walls, other);
    }

    /** The units on whose works that of this unit rests, by however many. */
    private int allRestsOf(int unit) {
        int all = units[unit].restsOn;
        for (int round = 0; round < unitCount; round++) {
            for (int other = 0; other < unitCount; other++) {
                if (hasBit(all, other)) {
                    all |= units[other].restsOn;
                }
            }
        }
        return all;
    }

    // works

    private char hindrance(int unit) {
        Unit here = units[unit];
        int on = unitsWithWork(ON);
        if (!here.isPlanned()) {
            return 'b';
        }
        if (here.noticeDay == NO_NOTICE || here.noticeDay > today) {
            return 'n';
        }
        if (shopsIn(unit) > 0) {
            return 'o';
        }
        if (Integer.bitCount(on) >= MOST_WORKS_ON) {
            return '2';
        }
        if ((here.walls & on) != 0) {
            return 'w';
        }
        if ((here.restsOn & ~unitsWithWork(DONE)) != 0) {
            return 'r';
        }
        return isWideWithHoardingAt(unit) ? CAN_BEGIN : 'l';
    }

    private static int dayCause(char cause) {
        switch (cause) {
            case 's':
                return DAY_BY_STRIKE;
            case 'c':
                return DAY_BY_NO_CREW;
            case 'q':
                return DAY_BY_QUIET;
            case 'p':
                return DAY_BY_OTHER;
            default:
                return NO_CAUSE;
        }
    }

    // shops

    private int shopsIn(int unit) {
        int count = 0;
        for (int i = 0; i < shopCount; i++) {
            if (shops[i].unit == unit) {
                count++;
            }
        }
        return count;
    }

    private boolean isFree(int unit) {
        return shopsIn(unit) == 0 && !units[unit].isOn();
    }

    private int freeStalls() {
        int free = STALLS;
        for (int i = 0; i < shopCount; i++) {
            if (shops[i].state == ON_STALL) {
                free--;
            }
        }
        return free;
    }

    private int hundredthsSeenAt(int place) {
        int hundredths = WHOLE;
        for (int unit = 0; unit < unitCount; unit++) {
            boolean isInSight = unit != place && Math.abs(unit - place) <= SIGHT_UNITS;
            if (isInSight && units[unit].isOn()) {
                hundredths -= HIDDEN_BY_HOARDING;
            }
        }
        return Math.max(hundredths, 0);
    }

    private boolean hasDust(Shop shop) {
        if (shop.state != IN_UNIT) {
            return false;
        }
        for (int i = 0; i < crewCount; i++) {
            if (crews[i].trade == DUSTY && isAtWork(crews[i]) && haveWall(crews[i].unit, shop.unit)) {
                return true;
            }
        }
        return false;
    }

    private static int lossCause(char cause) {
        switch (cause) {
            case 'h':
                return LOSS_BY_HOARDING;
            case 'm':
                return LOSS_BY_MOVE;
            case 'd':
                return LOSS_BY_DUST;
            case 's':
                return LOSS_BY_SHUT;
            default:
                return NO_CAUSE;
        }
    }

    // ways out

    /** Whether those who go out from a place pass a unit on their way to the nearer end. */
    private boolean isOnWayFrom(int place, int unit) {
        boolean isFirstEndNear = place <= unitCount - 1 - place;
        return isFirstEndNear ? unit <= place : unit >= place;
    }

    private int peoplePast(int unit, int leftOutShop) {
        int sum = 0;
        for (int i = 0; i < shopCount; i++) {
            if (i != leftOutShop && shops[i].isOpen() && isOnWayFrom(shops[i].place(), unit)) {
                sum += shops[i].people;
            }
        }
        return sum;
    }

    /** Whether the ways out are wide enough if these people, of that shop, go out from a place. */
    private boolean canGoOutFrom(int place, int people, int shop) {
        for (int unit = 0; unit < unitCount; unit++) {
            int others = peoplePast(unit, shop);
            int all = isOnWayFrom(place, unit) ? others + people : others;
            if (all > units[unit].peopleAllowed()) {
                return false;
            }
        }
        return true;
    }

    private boolean isWideWithHoardingAt(int unit) {
        int narrowed = units[unit].peopleAllowed() - HOARDING_METRES * PEOPLE_PER_METRE;
        return areWide() && peoplePast(unit, NO_SHOP) <= narrowed;
    }

    // days

    private void passOneDay() {
        for (int i = 0; i < shopCount; i++) {
            trade(shops[i]);
        }
        letCrewsWork();
        endWorks();
        if (strikeDays > 0) {
            strikeDays--;
        }
        for (int i = 0; i < shopCount; i++) {
            shops[i].isComing = false;
        }
        today++;
    }

    private int weekdayNow() {
        return today % WEEK;
    }

    private void trade(Shop shop) {
        int could = peopleOn[weekdayNow()] * shop.pull;
        shop.could += could;
        if (shop.isShutToday()) {
            shop.losses[LOSS_BY_SHUT] += could;
            shop.shutDays++;
            shop.known = Math.max(shop.known - FORGOTTEN_A_DAY, 0);
            return;
        }
        int bySight = could * hundredthsSeenAt(shop.place()) / WHOLE;
        int byHabit = bySight * shop.known / WHOLE;
        if (shop.state == ON_STALL) {
            byHabit = byHabit / 2;
        }
        int taken = shop.isClean && hasDust(shop) ? byHabit / 2 : byHabit;
        shop.losses[LOSS_BY_HOARDING] += could - bySight;
        shop.losses[LOSS_BY_MOVE] += bySight - byHabit;
        shop.losses[LOSS_BY_DUST] += byHabit - taken;
        shop.taken += taken;
        shop.known = Math.min(shop.known + LEARNED_A_DAY, WHOLE);
    }

    private void letCrewsWork() {
        int worked = 0;
        for (int i = 0; i < crewCount; i++) {
            if (doesADay(i)) {
                Unit there = units[crews[i].unit];
                there.daysLeft = Math.max(there.daysLeft - 1, 0);
                worked |= bit(crews[i].unit);
            }
        }
        for (int unit = 0; unit < unitCount; unit++) {
            if (units[unit].isOn() && !hasBit(worked, unit)) {
                units[unit].daysLost[causeOfIdleDay(unit)]++;
            }
        }
    }

    private void endWorks() {
        for (int unit = 0; unit < unitCount; unit++) {
            if (units[unit].isOn() && units[unit].daysLeft == 0) {
                units[unit].work = DONE;
            }
        }
    }

    // crews

    /** Whether a crew is at a unit whose work is on, and there is no strike. */
    private boolean isAtWork(Crew crew) {
        return strikeDays == 0 && crew.unit != NOWHERE && units[crew.unit].isOn();
    }

    private boolean doesADay(int crew) {
        Crew it = crews[crew];
        if (!isAtWork(it)) {
            return false;
        }
        if (it.trade == NOISY) {
            return !isQuietBeside(it.unit);
        }
        return it.trade != HOT || !isHotBelow(crew);
    }

    private boolean isQuietBeside(int unit) {
        for (int i = 0; i < shopCount; i++) {
            Shop shop = shops[i];
            if (shop.state == IN_UNIT && haveWall(unit, shop.unit) && shop.isQuietOn(weekdayNow())) {
                return true;
            }
        }
        return false;
    }

    /** Of the hot crews at work the lowest one always does a day, so that being at work is enough here. */
    private boolean isHotBelow(int crew) {
        for (int i = 0; i < crew; i++) {
            if (crews[i].trade == HOT && isAtWork(crews[i])) {
                return true;
            }
        }
        return false;
    }

    private int causeOfIdleDay(int unit) {
        if (strikeDays > 0) {
            return DAY_BY_STRIKE;
        }
        boolean hasCrew = false;
        boolean hasNoisyCrew = false;
        for (int i = 0; i < crewCount; i++) {
            if (crews[i].unit == unit) {
                hasCrew = true;
                hasNoisyCrew = hasNoisyCrew || crews[i].trade == NOISY;
            }
        }
        if (!hasCrew) {
            return DAY_BY_NO_CREW;
        }
        return hasNoisyCrew ? DAY_BY_QUIET : DAY_BY_OTHER;
    }

    // soundness

    private boolean areWorksSound() {
        int on = unitsWithWork(ON);
        int notDone = ~unitsWithWork(DONE);
        if (Integer.bitCount(on) > MOST_WORKS_ON) {
            return false;
        }
        for (int unit = 0; unit < unitCount; unit++) {
            boolean isOn = hasBit(on, unit);
            if (isOn && ((units[unit].walls & on) != 0 || (units[unit].restsOn & notDone) != 0)) {
                return false;
            }
        }
        return true;
    }

    private boolean areUnitsSound() {
        for (int unit = 0; unit < unitCount; unit++) {
            int count = shopsIn(unit);
            if (count > 1 || count == 1 && units[unit].isOn()) {
                return false;
            }
        }
        return true;
    }

    private boolean areShopsSound() {
        for (int i = 0; i < shopCount; i++) {
            Shop shop = shops[i];
            long sum = shop.taken + shop.lossByWorks() + shop.losses[LOSS_BY_SHUT];
            if (shop.shutDays > shop.lease || sum != shop.could) {
                return false;
            }
        }
        return true;
    }

    /** A unit along the passage, with its work if it has one. */
    private static final class Unit {
        private final int[] daysLost = new int[CAUSES];
        private int width = 0;
        private int walls = 0;
        private char work = NO_WORK;
        private int daysLeft = 0;
        private int restsOn = 0;
        private int noticeDay = NO_NOTICE;

        private boolean hasWork() {
            return work != NO_WORK;
        }

        private boolean isPlanned() {
            return work == PLANNED;
        }

        private boolean isOn() {
            return work == ON;
        }

        private int peopleAllowed() {
            int metres = isOn() ? width - HOARDING_METRES : width;
            return PEOPLE_PER_METRE * metres;
        }
    }

    /** A shop, which is in its unit as soon as it is added. */
    private static final class Shop {
        private final long[] losses = new long[CAUSES];
        private int home = NOWHERE;
        private int unit = NOWHERE;
        private char state = IN_UNIT;
        private int pull = 0;
        private int people = 0;
        private boolean isClean = false;
        private int quietDays = 0;
        private int lease = 0;
        private int shutDays = 0;
        private boolean isComing = false;
        private int known = WHOLE;
        private long taken = 0;
        private long could = 0;

        private boolean isOpen() {
            return state != SHUT;
        }

        private boolean isShutToday() {
            return state == SHUT || isComing;
        }

        private int place() {
            return state == IN_UNIT ? unit : STALL_PLACE;
        }

        private boolean isQuietOn(int weekday) {
            return (quietDays >> weekday & 1) == 1;
        }

        private int shutDaysLeft() {
            return lease - shutDays;
        }

        private int shutDaysWithin(int days) {
            if (state == SHUT) {
                return days;
            }
            return isComing ? 1 : 0;
        }

        private void comeTo(char newState, int newUnit) {
            state = newState;
            unit = newUnit;
            isComing = true;
            known = Math.min(known, KNOWN_ON_COMING);
        }

        private void shut() {
            state = SHUT;
            unit = NOWHERE;
            isComing = false;
        }

        private long lossByWorks() {
            return losses[LOSS_BY_HOARDING] + losses[LOSS_BY_MOVE] + losses[LOSS_BY_DUST];
        }
    }

    /** A crew at a unit or at none. */
    private static final class Crew {
        private char trade = DUSTY;
        private int unit = NOWHERE;
    }

    /**
     * The search for the shortest programme.
     *
     * <p>In the programme that is due no work could begin earlier with the others left as they are, for that would
     * be taken in its place. Each such programme comes out if the works are put in by their starts, each as early as
     * it fits then; so it is enough to try all orders of the works that were not begun.
     */
    private static final class Programme {
        private final int[] order = new int[MOST_PROGRAMMED];
        private final int[] starts = new int[MOST_UNITS];
        private final int[] ends = new int[MOST_UNITS];
        private final int[] bestStarts = new int[MOST_UNITS];
        private int planned = 0;
        private int put = 0;
        private int days = 0;
        private int bestDays = 0;

        private void seek(Unit[] units, int unitCount) {
            planned = 0;
            for (int unit = 0; unit < unitCount; unit++) {
                if (units[unit].isPlanned() && planned < MOST_PROGRAMMED) {
                    order[planned] = unit;
                    planned++;
                }
            }
            bestDays = LONGER_THAN_ANY;
            boolean isNew = true;
            for (int i = 0; i < MOST_ORDERS && isNew; i++) {
                putWorksOn(units, unitCount);
                if (putInOrder(units, unitCount) && isBetter(units, unitCount)) {
                    keep();
                }
                isNew = nextOrder();
            }
        }

        private void putWorksOn(Unit[] units, int unitCount) {
            put = 0;
            days = 0;
            for (int unit = 0; unit < unitCount; unit++) {
                if (units[unit].isOn()) {
                    putAt(unit, 0, units[unit].daysLeft);
                }
            }
        }

        private void putAt(int unit, int start, int length) {
            starts[unit] = start;
            ends[unit] = start + length;
            put |= bit(unit);
            days = Math.max(days, ends[unit]);
        }

        /** Returns false if the order has a work ahead of one on which it rests, or takes too long. */
        private boolean putInOrder(Unit[] units, int unitCount) {
            for (int i = 0; i < planned; i++) {
                int unit = order[i];
                int start = endOfRests(units, unitCount, unit);
                if (start < 0) {
                    return false;
                }
                // each try but the last one leaves the end of another work behind
                for (int tries = 0; tries < MOST_UNITS && !fitsAt(units, unitCount, unit, start); tries++) {
                    start = nextEnd(unitCount, start);
                }
                putAt(unit, start, units[unit].daysLeft);
                if (days > bestDays) {
                    return false;
                }
            }
            return true;
        }

        /** The day on which all that a work rests on is done, or -1 if one of these is not put in. */
        private int endOfRests(Unit[] units, int unitCount, int unit) {
            int end = 0;
            for (int other = 0; other < unitCount; other++) {
                if (hasBit(units[unit].restsOn, other) && units[other].work != DONE) {
                    if (!hasBit(put, other)) {
                        return -1;
                    }
                    end = Math.max(end, ends[other]);
                }
            }
            return end;
        }

        private boolean fitsAt(Unit[] units, int unitCount, int unit, int start) {
            int end = start + units[unit].daysLeft;
            for (int other = 0; other < unitCount; other++) {
                if (hasBit(put, other) && starts[other] < end && ends[other] > start) {
                    // those that are on are most where one of them begins
                    int day = Math.max(start, starts[other]);
                    if (hasBit(units[unit].walls, other) || onAt(unitCount, day) >= MOST_WORKS_ON) {
                        return false;
                    }
                }
            }
            return true;
        }

        private int onAt(int unitCount, int day) {
            int count = 0;
            for (int unit = 0; unit < unitCount; unit++) {
                if (hasBit(put, unit) && starts[unit] <= day && ends[unit] > day) {
                    count++;
                }
            }
            return count;
        }

        private int nextEnd(int unitCount, int day) {
            int next = LONGER_THAN_ANY;
            for (int unit = 0; unit < unitCount; unit++) {
                if (hasBit(put, unit) && ends[unit] > day) {
                    next = Math.min(next, ends[unit]);
                }
            }
            return next;
        }

        private boolean isBetter(Unit[] units, int unitCount) {
            if (days != bestDays) {
                return days < bestDays;
            }
            for (int unit = 0; unit < unitCount; unit++) {
                if (units[unit].isPlanned() && starts[unit] != bestStarts[unit]) {
                    return starts[unit] < bestStarts[unit];
                }
            }
            return false;
        }

        private void keep() {
            bestDays = days;
            System.arraycopy(starts, 0, bestStarts, 0, MOST_UNITS);
        }

        /** Makes the next order by the alphabet of units, or returns false behind the last one. */
        private boolean nextOrder() {
            int turn = planned - 2;
            while (turn >= 0 && order[turn] > order[turn + 1]) {
                turn--;
            }
            if (turn < 0) {
                return false;
            }
            int higher = planned - 1;
            while (higher > turn && order[higher] < order[turn]) {
                higher--;
            }
            swap(turn, higher);
            for (int low = turn + 1, high = planned - 1; low < high; low++, high--) {
                swap(low, high);
            }
            return true;
        }

        private void swap(int one, int other) {
            int kept = order[one];
            order[one] = order[other];
            order[other] = kept;
        }
    }
}
