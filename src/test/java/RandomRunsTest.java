import java.util.NoSuchElementException;

/**
 * Long runs of calls that look like chance, with wrong inputs among them. A call may throw only what its promise names
 * and then changes nothing; the street stays sound; and each day that goes by does what the answers ahead of it say.
 */
public final class RandomRunsTest {
    private static final int RUNS = 400;
    private static final int CALLS = 300;
    private static final char[] SIGNS = {'d', 'n', 'h', 's', 'c', 'q', 'p', 'm', 'x', (char) 0x164};

    private static long seed = 7;

    public static void main(String[] args) {
        for (int run = 0; run < RUNS; run++) {
            Run it = new Run(run);
            for (int i = 0; i < CALLS; i++) {
                it.step();
            }
        }
        Due.end("RandomRunsTest");
    }

    /** Numbers that look like chance, the same in every run. */
    private static int chance(int bound) {
        seed = seed * 6364136223846793005L + 1442695040888963407L;
        return (int) ((seed >>> 33) % bound);
    }

    private static final class Run {
        private final TwofrontArcade x = new TwofrontArcade();
        private final int[] people = new int[7];
        private final String name;
        private int units = 0;
        private int shops = 0;
        private int crews = 0;
        private int strike = 0;

        private Run(int number) {
            name = "run " + number + ": ";
            java.util.Arrays.fill(people, 100);
            for (int i = 1 + chance(10); i > 0; i--) {
                x.addUnit(4 + chance(9));
                units++;
            }
            for (int i = chance(8); i > 0; i--) {
                tryCall("addWall", () -> x.addWall(unit(), unit()), Due.BAD, Due.MAY_NOT, Due.NO_SUCH);
            }
        }

        private int unit() {
            return chance(30) == 0 ? chance(14) - 2 : chance(units);
        }

        private int shop() {
            return chance(30) == 0 ? chance(14) - 2 : chance(Math.max(shops, 1));
        }

        private int crew() {
            return chance(30) == 0 ? chance(7) - 2 : chance(Math.max(crews, 1));
        }

        /** A unit to send a crew to, mostly one whose work is on. */
        private int place() {
            int start = chance(units);
            for (int i = 0; i < units && chance(4) != 0; i++) {
                int unit = (start + i) % units;
                if (stateOf(unit) == 'w') {
                    return unit;
                }
            }
            return chance(5) == 0 ? -1 : unit();
        }

        private char sign() {
            return SIGNS[chance(SIGNS.length)];
        }

        private void step() {
            switch (chance(4)) {
                case 0 -> stepOfWorks();
                case 1 -> stepOfShops();
                case 2 -> stepOfDays();
                default -> ask();
            }
            Due.is(name + "isSound()", x.isSound(), true);
            Due.is(name + "areWide()", x.areWide(), true);
        }

        private void stepOfWorks() {
            int unit = unit();
            switch (chance(8)) {
                case 0, 1 -> tryCall("plan", () -> x.plan(unit, chance(20)), Due.NO_SUCH, Due.BAD, Due.MAY_NOT);
                case 2 -> tryCall("rest", () -> x.rest(unit, unit()), Due.NO_SUCH, Due.MAY_NOT, Due.BAD);
                case 3, 4 -> tryCall("notice", () -> x.notice(unit, x.day() + 6 + chance(5)),
                        Due.NO_SUCH, Due.MAY_NOT, Due.BAD);
                case 5 -> tryCall("find", () -> x.find(unit, chance(32)), Due.NO_SUCH, Due.BAD, Due.MAY_NOT);
                case 6 -> tryCall("addWall", () -> x.addWall(unit, unit()), Due.NO_SUCH, Due.BAD, Due.MAY_NOT);
                default -> begin(unit);
            }
        }

        private void begin(int unit) {
            boolean can = unit >= 0 && unit < units && mayBegin(unit);
            boolean did = tryCall("begin", () -> x.begin(unit), Due.NO_SUCH, Due.MAY_NOT);
            Due.is(name + "begin(" + unit + ") if whyNot tells so", did, can);
        }

        private boolean mayBegin(int unit) {
            try {
                return x.whyNot(unit) == '-';
            } catch (NoSuchElementException e) {
                return false;
            }
        }

        private void stepOfShops() {
            int shop = shop();
            switch (chance(6)) {
                case 0, 1 -> {
                    boolean did = tryCall("addShop", () -> x.addShop(unit(), chance(11), chance(102), chance(2) == 0,
                            chance(130) - 1, chance(62)), Due.NO_SUCH, Due.BAD, Due.MAY_NOT, Due.FULL);
                    shops += did ? 1 : 0;
                }
                case 2, 3 -> tryCall("move", () -> x.move(shop, unit()), Due.NO_SUCH, Due.MAY_NOT);
                case 4 -> tryCall("toStall", () -> x.toStall(shop), Due.NO_SUCH, Due.MAY_NOT);
                default -> tryCall("store", () -> x.store(shop), Due.NO_SUCH, Due.MAY_NOT);
            }
        }

        private void stepOfDays() {
            switch (chance(9)) {
                case 0 -> crews += tryCall("addCrew", () -> x.addCrew(SIGNS[chance(4)]), Due.BAD, Due.FULL) ? 1 : 0;
                case 1, 2 -> tryCall("send", () -> x.send(crew(), place()), Due.NO_SUCH);
                case 3 -> setPeople(chance(9) - 1, chance(1010) - 5);
                case 4 -> strike(chance(33) == 0 ? 31 : chance(3));
                case 5 -> tryCall("pass", () -> x.pass(31 + chance(3)), Due.BAD);
                default -> passDays(1 + chance(3));
            }
        }

        private void setPeople(int weekday, int number) {
            if (tryCall("setPeople", () -> x.setPeople(weekday, number), Due.BAD)) {
                people[weekday] = number;
            }
        }

        private void strike(int days) {
            if (tryCall("strike", () -> x.strike(days), Due.BAD)) {
                strike = Math.max(strike, days);
                Due.is(name + "strike(1)", x.strike(1), strike);
            }
        }

        private void ask() {
            tryCall("canWork", () -> x.canWork(crew()), Due.NO_SUCH);
            tryCall("seen", () -> x.seen(shop()), Due.NO_SUCH);
            tryCall("lost", () -> x.lost(shop(), sign()), Due.NO_SUCH, Due.BAD);
            tryCall("lostDays", () -> x.lostDays(unit(), sign()), Due.NO_SUCH, Due.BAD);
            tryCall("shortest", () -> x.shortest(), Due.MAY_NOT);
            tryCall("startIn", () -> x.startIn(unit()), Due.NO_SUCH, Due.MAY_NOT, Due.NONE);
            tryCall("openShare", () -> x.openShare(), Due.NONE);
        }

        @SafeVarargs
        private boolean tryCall(String call, Due.Call it, Class<? extends RuntimeException>... may) {
            String before = Due.stateOf(x);
            try {
                it.run();
                return true;
            } catch (RuntimeException e) {
                boolean isNamed = false;
                for (Class<? extends RuntimeException> one : may) {
                    isNamed = isNamed || one == e.getClass();
                }
                Due.is(name + call + " may throw " + e.getClass().getName(), isNamed, true);
                Due.is(name + call + " threw and changed nothing", Due.stateOf(x).equals(before), true);
                return false;
            }
        }

        private void passDays(int days) {
            if (!tryCall("pass", () -> x.pass(1), Due.MAY_NOT, Due.FULL)) {
                return;
            }
            strike = Math.max(strike - 1, 0);
            for (int i = 0; i < days && canPass(); i++) {
                passOne();
            }
        }

        private boolean canPass() {
            boolean can = x.day() < 999;
            for (int shop = 0; shop < shops; shop++) {
                can = can && (x.state(shop) != 's' || x.mayBeShut(shop) > 0);
            }
            return can;
        }

        /** Lets a day go by, and compares it with what the answers ahead of it make due. */
        private void passOne() {
            long[][] money = new long[shops][];
            int[] known = new int[shops];
            for (int shop = 0; shop < shops; shop++) {
                money[shop] = moneyBehindToday(shop);
                known[shop] = isShutToday(shop) ? Math.max(x.known(shop) - 2, 0) : Math.min(x.known(shop) + 5, 100);
            }
            String works = worksBehindToday();
            x.pass(1);
            strike = Math.max(strike - 1, 0);
            for (int shop = 0; shop < shops; shop++) {
                for (int i = 0; i < 5; i++) {
                    Due.is(name + "francs of the shop " + shop, money(shop)[i], money[shop][i]);
                }
                Due.is(name + "known(" + shop + ")", x.known(shop), known[shop]);
                Due.is(name + "comes(" + shop + ")", x.comes(shop), false);
            }
            Due.is(name + "works", works(), works);
        }

        private boolean isShutToday(int shop) {
            return x.state(shop) == 's' || x.comes(shop);
        }

        private long[] money(int shop) {
            return new long[] {x.took(shop), x.lost(shop, 'h'), x.lost(shop, 'm'), x.lost(shop, 'd'),
                x.lost(shop, 's')};
        }

        /** The shop's pull and goods are read from what the object holds, for no call tells them. */
        private long[] moneyBehindToday(int shop) {
            long[] due = money(shop);
            long could = (long) people[x.day() % 7] * (int) held("shops", shop, "pull");
            if (isShutToday(shop)) {
                due[4] += could;
                return due;
            }
            long sight = could * x.seen(shop) / 100;
            long habit = sight * x.known(shop) / (x.state(shop) == 't' ? 200 : 100);
            long taken = x.isDusty(shop) && (boolean) held("shops", shop, "isClean") ? habit / 2 : habit;
            due[0] += taken;
            due[1] += could - sight;
            due[2] += sight - habit;
            due[3] += habit - taken;
            return due;
        }

        private Object held(String row, int number, String field) {
            try {
                java.lang.reflect.Field all = TwofrontArcade.class.getDeclaredField(row);
                all.setAccessible(true);
                Object it = java.lang.reflect.Array.get(all.get(x), number);
                java.lang.reflect.Field found = it.getClass().getDeclaredField(field);
                found.setAccessible(true);
                return found.get(it);
            } catch (ReflectiveOperationException e) {
                throw new AssertionError(e);
            }
        }

        private String works() {
            StringBuilder text = new StringBuilder();
            for (int unit = 0; unit < units; unit++) {
                int left = stateOf(unit) == '-' ? 0 : x.left(unit);
                text.append(told(unit, stateOf(unit), left, lostDays(unit, '-')));
            }
            return text.toString();
        }

        private String worksBehindToday() {
            StringBuilder text = new StringBuilder();
            for (int unit = 0; unit < units; unit++) {
                char state = stateOf(unit);
                int left = state == '-' ? 0 : x.left(unit);
                int workers = state == 'w' ? workersAt(unit) : 0;
                String lost = lostDays(unit, state == 'w' && workers == 0 ? causeAt(unit) : '-');
                left = Math.max(left - workers, 0);
                text.append(told(unit, state == 'w' && left == 0 ? 'd' : state, left, lost));
            }
            return text.toString();
        }

        private static String told(int unit, char state, int left, String lost) {
            return unit + " " + state + " " + left + lost + "; ";
        }

        private char stateOf(int unit) {
            try {
                return x.work(unit);
            } catch (NoSuchElementException e) {
                return '-';
            }
        }

        /** The days that a work lost by each cause, with one more by one of them. */
        private String lostDays(int unit, char more) {
            StringBuilder text = new StringBuilder();
            for (char cause : new char[] {'s', 'c', 'q', 'p'}) {
                text.append(' ').append(x.lostDays(unit, cause) + (cause == more ? 1 : 0));
            }
            return text.toString();
        }

        private char causeAt(int unit) {
            if (strike > 0) {
                return 's';
            }
            char cause = 'c';
            for (int crew = 0; crew < crews; crew++) {
                if (unitOfCrew(crew) == unit) {
                    boolean isNoisy = held("crews", crew, "trade").equals('n');
                    cause = isNoisy || cause == 'q' ? 'q' : 'p';
                }
            }
            return cause;
        }

        private int workersAt(int unit) {
            int workers = 0;
            for (int crew = 0; crew < crews; crew++) {
                workers += x.canWork(crew) && unitOfCrew(crew) == unit ? 1 : 0;
            }
            return workers;
        }

        /** Where a crew is, which only sending it away tells. */
        private int unitOfCrew(int crew) {
            int unit = x.send(crew, -1);
            x.send(crew, unit);
            return unit;
        }
    }
}
