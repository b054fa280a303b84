/** Promises 12 to 23: shops, where they are, how they come, are shut, seen, known and dusty. */
public final class ShopsTest {
    public static void main(String[] args) {
        promise12AddShop();
        promise12AddShopBesideAnother();
        promise12AddShopTooNarrow();
        promises13To15WhereAShopIs();
        promise16Move();
        promise16MoveTooNarrow();
        promise17ToStall();
        promise17ToStallTooNarrow();
        promise18Store();
        promise19Comes();
        promise20MayBeShut();
        promise21Seen();
        promise21SeenFromAStall();
        promise21SeenBesideTheEnds();
        promise22Known();
        promise23IsDusty();
        Due.end("ShopsTest");
    }

    private static void promise12AddShop() {
        TwofrontArcade x = Streets.of(4, 12);
        Streets.beginAt(x, 9, 3);
        Due.fails("addShop(4, 0, ..)", x, Due.NO_SUCH, () -> x.addShop(4, 0, 0, false, 0, 0));
        Due.fails("addShop(-1, ..)", x, Due.NO_SUCH, () -> x.addShop(-1, 1, 0, false, 0, 0));
        Due.fails("addShop, pull 0", x, Due.BAD, () -> x.addShop(0, 0, 0, false, 0, 0));
        Due.fails("addShop, pull 10", x, Due.BAD, () -> x.addShop(0, 10, 0, false, 0, 0));
        Due.fails("addShop, people -1", x, Due.BAD, () -> x.addShop(0, 1, -1, false, 0, 0));
        Due.fails("addShop, people 100", x, Due.BAD, () -> x.addShop(0, 1, 100, false, 0, 0));
        Due.fails("addShop, quiet -1", x, Due.BAD, () -> x.addShop(0, 1, 0, false, -1, 0));
        Due.fails("addShop, quiet 128", x, Due.BAD, () -> x.addShop(0, 1, 0, false, 128, 0));
        Due.fails("addShop, days -1", x, Due.BAD, () -> x.addShop(0, 1, 0, false, 0, -1));
        Due.fails("addShop, days 61", x, Due.BAD, () -> x.addShop(0, 1, 0, false, 0, 61));
        Due.fails("addShop, a work on, pull 10", x, Due.BAD, () -> x.addShop(3, 10, 0, false, 0, 0));
        Due.fails("addShop, a work on", x, Due.MAY_NOT, () -> x.addShop(3, 1, 0, false, 0, 0));
        Due.is("addShop(0, 1, 0, false, 0, 0)", x.addShop(0, 1, 0, false, 0, 0), 0);
        Due.is("addShop(1, 9, 99, true, 127, 60)", x.addShop(1, 9, 99, true, 127, 60), 1);
        Due.fails("addShop, a shop there", x, Due.MAY_NOT, () -> x.addShop(1, 1, 0, false, 0, 0));
        x.plan(2, 5);
        Due.is("addShop(2, ..), a work planned", x.addShop(2, 1, 5, false, 0, 5), 2);
        Due.is("state(2)", x.state(2), 'o');
        Due.is("comes(2)", x.comes(2), false);
        Due.is("known(2)", x.known(2), 100);
        Due.is("mayBeShut(1)", x.mayBeShut(1), 60);
        Due.is("flow(2)", x.flow(2), 5);
        Due.is("took(1) at first", x.took(1), 0);
        x.pass(1);
        Due.is("took(1) on its first day, seen by 80", x.took(1), 720);
    }

    /** A shop may be added in the unit that another one left, up to 10 in all. */
    private static void promise12AddShopBesideAnother() {
        TwofrontArcade x = Streets.of(10, 12);
        for (int i = 0; i < 9; i++) {
            Due.is("addShop no. " + i, x.addShop(i, 1, 0, false, 0, 9), i);
        }
        x.toStall(0);
        Due.is("addShop(0, ..), the first one on a stall", x.addShop(0, 1, 0, false, 0, 9), 9);
        Due.is("homeOf(9)", x.homeOf(9), 0);
        Due.fails("addShop(9, ..), 10 shops", x, Due.FULL, () -> x.addShop(9, 1, 0, false, 0, 9));
        Due.fails("addShop(0, ..), 10 shops, taken", x, Due.MAY_NOT, () -> x.addShop(0, 1, 0, false, 0, 9));
        Due.fails("addShop(9, 0, ..), 10 shops", x, Due.BAD, () -> x.addShop(9, 0, 0, false, 0, 9));
        Due.fails("addShop(10, ..), 10 shops", x, Due.NO_SUCH, () -> x.addShop(10, 1, 0, false, 0, 9));
    }

    private static void promise12AddShopTooNarrow() {
        TwofrontArcade x = new TwofrontArcade();
        x.addUnit(4);
        x.addUnit(12);
        x.addUnit(12);
        x.addUnit(4);
        x.addShop(0, 1, 60, false, 0, 9);
        Due.fails("addShop(1, ..), 101 pass 100", x, Due.MAY_NOT, () -> x.addShop(1, 1, 41, false, 0, 9));
        Due.is("addShop(2, ..), by the other end", x.addShop(2, 1, 41, false, 0, 9), 1);
        Due.is("addShop(1, ..), 100 pass 100", x.addShop(1, 1, 40, false, 0, 9), 2);
        Due.is("flow(0)", x.flow(0), 100);
        Due.is("flow(3)", x.flow(3), 41);
        Due.fails("addShop(3, ..), 101 pass 100", x, Due.MAY_NOT, () -> x.addShop(3, 1, 60, false, 0, 9));
        Due.is("addShop(3, ..), 100 pass 100", x.addShop(3, 1, 59, false, 0, 9), 3);
    }

    private static void promises13To15WhereAShopIs() {
        TwofrontArcade x = Streets.of(3, 12);
        x.addShop(2, 1, 5, false, 0, 9);
        Due.fails("state(1)", x, Due.NO_SUCH, () -> x.state(1));
        Due.fails("state(-1)", x, Due.NO_SUCH, () -> x.state(-1));
        Due.fails("unitOf(1)", x, Due.NO_SUCH, () -> x.unitOf(1));
        Due.fails("unitOf(-1)", x, Due.NO_SUCH, () -> x.unitOf(-1));
        Due.fails("homeOf(1)", x, Due.NO_SUCH, () -> x.homeOf(1));
        Due.fails("homeOf(-1)", x, Due.NO_SUCH, () -> x.homeOf(-1));
        Due.is("state(0)", x.state(0), 'o');
        Due.is("unitOf(0)", x.unitOf(0), 2);
        Due.is("homeOf(0)", x.homeOf(0), 2);
        x.move(0, 1);
        Due.is("state(0), moved", x.state(0), 'o');
        Due.is("unitOf(0), moved", x.unitOf(0), 1);
        Due.is("homeOf(0), moved", x.homeOf(0), 2);
        x.toStall(0);
        Due.is("state(0), on a stall", x.state(0), 't');
        Due.fails("unitOf(0), on a stall", x, Due.NONE, () -> x.unitOf(0));
        Due.is("homeOf(0), on a stall", x.homeOf(0), 2);
        x.store(0);
        Due.is("state(0), stored", x.state(0), 's');
        Due.fails("unitOf(0), stored", x, Due.NONE, () -> x.unitOf(0));
        x.pass(1);
        Due.is("homeOf(0), stored", x.homeOf(0), 2);
    }

    private static void promise16Move() {
        TwofrontArcade x = Streets.of(5, 12);
        Streets.beginAt(x, 9, 4);
        x.addShop(0, 1, 5, false, 0, 2);
        x.addShop(1, 1, 5, false, 0, 0);
        Due.fails("move(2, 3)", x, Due.NO_SUCH, () -> x.move(2, 3));
        Due.fails("move(-1, 3)", x, Due.NO_SUCH, () -> x.move(-1, 3));
        Due.fails("move(0, 5)", x, Due.NO_SUCH, () -> x.move(0, 5));
        Due.fails("move(0, -1)", x, Due.NO_SUCH, () -> x.move(0, -1));
        Due.fails("move(0, 0), itself there", x, Due.MAY_NOT, () -> x.move(0, 0));
        Due.fails("move(0, 1), another there", x, Due.MAY_NOT, () -> x.move(0, 1));
        Due.fails("move(0, 4), a work on", x, Due.MAY_NOT, () -> x.move(0, 4));
        Due.fails("move(1, 2), it may not be shut", x, Due.MAY_NOT, () -> x.move(1, 2));
        Due.is("move(0, 2)", x.move(0, 2), 2);
        Due.is("state(0) at once", x.state(0), 'o');
        Due.is("flow(2) at once", x.flow(2), 5);
        Due.is("move(0, 3) on the same day", x.move(0, 3), 2);
        x.pass(1);
        Due.is("mayBeShut(0), behind one day for both", x.mayBeShut(0), 1);
        Due.is("move(0, 0), left before", x.move(0, 0), 1);
        x.pass(1);
        Due.fails("move(0, 3), no day more", x, Due.MAY_NOT, () -> x.move(0, 3));
        Due.is("lost(0, 's')", x.lost(0, 's'), 200);
    }

    private static void promise16MoveTooNarrow() {
        TwofrontArcade x = new TwofrontArcade();
        x.addUnit(4);
        x.addUnit(12);
        x.addUnit(12);
        x.addUnit(12);
        x.addShop(0, 1, 60, false, 0, 9);
        x.addShop(3, 1, 41, false, 0, 9);
        Due.fails("move(1, 1), 101 pass 100", x, Due.MAY_NOT, () -> x.move(1, 1));
        Due.is("move(1, 2), by the other end", x.move(1, 2), 9);
        Due.is("move(0, 1), its own people not twice", x.move(0, 1), 9);
        Due.is("flow(0)", x.flow(0), 60);
        x.store(0);
        x.move(1, 1);
        Due.fails("move(0, 0) from being shut, too narrow", x, Due.MAY_NOT, () -> x.move(0, 0));
        Due.is("move(0, 2) from being shut", x.move(0, 2), 9);
        Due.is("state(0)", x.state(0), 'o');
    }

    private static void promise17ToStall() {
        TwofrontArcade x = Streets.of(4, 12);
        x.addShop(0, 1, 5, false, 0, 9);
        x.addShop(1, 1, 5, false, 0, 9);
        x.addShop(2, 1, 5, false, 0, 9);
        x.addShop(3, 1, 5, false, 0, 0);
        Due.fails("toStall(4)", x, Due.NO_SUCH, () -> x.toStall(4));
        Due.fails("toStall(-1)", x, Due.NO_SUCH, () -> x.toStall(-1));
        Due.fails("toStall(3), it may not be shut", x, Due.MAY_NOT, () -> x.toStall(3));
        Due.is("toStall(0)", x.toStall(0), 1);
        Due.fails("toStall(0) again", x, Due.MAY_NOT, () -> x.toStall(0));
        Due.is("toStall(2)", x.toStall(2), 0);
        Due.is("flow(0), from the unit 0", x.flow(0), 15);
        Due.is("flow(3)", x.flow(3), 5);
        Due.fails("toStall(1), none free", x, Due.MAY_NOT, () -> x.toStall(1));
        x.store(0);
        Due.is("toStall(1), one left", x.toStall(1), 0);
        x.move(2, 0);
        Due.is("toStall(0) from being shut", x.toStall(0), 0);
        Due.is("state(0)", x.state(0), 't');
    }

    private static void promise17ToStallTooNarrow() {
        TwofrontArcade x = Streets.of(4, 4);
        x.addShop(0, 1, 60, false, 0, 9);
        x.addShop(3, 1, 41, false, 0, 9);
        Due.fails("toStall(1), 101 pass 100", x, Due.MAY_NOT, () -> x.toStall(1));
        x.store(1);
        Due.fails("toStall(1) from being shut", x, Due.MAY_NOT, () -> x.toStall(1));
        Due.is("toStall(0), its own people not twice", x.toStall(0), 1);
    }

    private static void promise18Store() {
        TwofrontArcade x = Streets.of(3, 12);
        x.addShop(0, 1, 5, false, 0, 3);
        x.addShop(1, 1, 5, false, 0, 0);
        Due.fails("store(2)", x, Due.NO_SUCH, () -> x.store(2));
        Due.fails("store(-1)", x, Due.NO_SUCH, () -> x.store(-1));
        Due.fails("store(1), it may not be shut", x, Due.MAY_NOT, () -> x.store(1));
        Due.is("store(0)", x.store(0), 3);
        Due.fails("store(0) again", x, Due.MAY_NOT, () -> x.store(0));
        Due.is("known(0), shut", x.known(0), 100);
        Due.is("flow(0), shut", x.flow(0), 5);
        x.pass(1);
        x.toStall(0);
        Due.is("store(0) from a stall, coming", x.store(0), 2);
        Due.is("comes(0), stored", x.comes(0), false);
        x.pass(1);
        x.move(0, 2);
        Due.is("store(0), coming into a unit", x.store(0), 1);
        x.pass(1);
        Due.is("mayBeShut(0)", x.mayBeShut(0), 0);
        Due.fails("store(0), shut and no day more", x, Due.MAY_NOT, () -> x.store(0));
    }

    private static void promise19Comes() {
        TwofrontArcade x = Streets.of(3, 12);
        x.addShop(0, 1, 5, false, 0, 9);
        Due.fails("comes(1)", x, Due.NO_SUCH, () -> x.comes(1));
        Due.fails("comes(-1)", x, Due.NO_SUCH, () -> x.comes(-1));
        Due.is("comes(0) at first", x.comes(0), false);
        x.move(0, 1);
        Due.is("comes(0), into a unit", x.comes(0), true);
        x.pass(1);
        Due.is("comes(0), in", x.comes(0), false);
        x.toStall(0);
        Due.is("comes(0), onto a stall", x.comes(0), true);
        x.pass(2);
        Due.is("comes(0), on", x.comes(0), false);
        Due.is("lost(0, 's'), two days of coming", x.lost(0, 's'), 200);
        x.store(0);
        Due.is("comes(0), shut", x.comes(0), false);
    }

    private static void promise20MayBeShut() {
        TwofrontArcade x = Streets.of(3, 12);
        x.addShop(0, 1, 5, false, 0, 9);
        Due.fails("mayBeShut(1)", x, Due.NO_SUCH, () -> x.mayBeShut(1));
        Due.fails("mayBeShut(-1)", x, Due.NO_SUCH, () -> x.mayBeShut(-1));
        Due.is("mayBeShut(0)", x.mayBeShut(0), 9);
        x.pass(2);
        Due.is("mayBeShut(0), open", x.mayBeShut(0), 9);
        x.store(0);
        x.pass(3);
        Due.is("mayBeShut(0), three days shut", x.mayBeShut(0), 6);
        x.toStall(0);
        x.pass(3);
        Due.is("mayBeShut(0), one day coming", x.mayBeShut(0), 5);
    }

    private static void promise21Seen() {
        TwofrontArcade x = Streets.of(10, 12);
        x.plan(3, 9);
        x.plan(5, 9);
        x.notice(3, 7);
        x.notice(5, 7);
        for (int unit : new int[] {0, 1, 2, 4, 6, 7, 8}) {
            x.addShop(unit, 1, 0, false, 0, 9);
        }
        Due.fails("seen(7)", x, Due.NO_SUCH, () -> x.seen(7));
        Due.fails("seen(-1)", x, Due.NO_SUCH, () -> x.seen(-1));
        Due.is("seen(3), no hoardings", x.seen(3), 100);
        x.pass(7);
        x.begin(3);
        x.begin(5);
        Due.is("seen(0), three units behind", x.seen(0), 100);
        Due.is("seen(1), two units behind", x.seen(1), 80);
        Due.is("seen(2), one unit behind", x.seen(2), 80);
        Due.is("seen(3), between both", x.seen(3), 60);
        Due.is("seen(4), one before", x.seen(4), 80);
        Due.is("seen(5), two before", x.seen(5), 80);
        Due.is("seen(6), three before", x.seen(6), 100);
        x.store(3);
        Due.is("seen(3), shut", x.seen(3), 0);
        x.move(3, 9);
        Due.is("seen(3), coming elsewhere", x.seen(3), 100);
    }

    private static void promise21SeenFromAStall() {
        TwofrontArcade x = Streets.of(5, 12);
        x.plan(0, 9);
        x.plan(2, 9);
        x.notice(0, 7);
        x.notice(2, 7);
        x.addShop(4, 1, 0, false, 0, 9);
        x.pass(7);
        x.begin(0);
        x.toStall(0);
        Due.is("seen(0), a hoarding at its own place", x.seen(0), 100);
        x.begin(2);
        Due.is("seen(0), one two units behind the unit 0", x.seen(0), 80);
        x.pass(1);
        Due.is("lost(0, 's')", x.lost(0, 's'), 100);
        x.pass(1);
        Due.is("lost(0, 'h')", x.lost(0, 'h'), 20);
    }

    private static void promise21SeenBesideTheEnds() {
        TwofrontArcade x = Streets.of(4, 12);
        x.plan(0, 9);
        x.plan(3, 9);
        x.notice(0, 7);
        x.notice(3, 7);
        x.addShop(1, 1, 0, false, 0, 9);
        x.pass(7);
        x.begin(0);
        Due.is("seen(0), a hoarding at the unit 0", x.seen(0), 80);
        x.begin(3);
        Due.is("seen(0), one at the last unit too", x.seen(0), 60);
    }

    private static void promise22Known() {
        TwofrontArcade x = Streets.of(3, 12);
        x.addShop(0, 1, 0, false, 0, 60);
        Due.fails("known(1)", x, Due.NO_SUCH, () -> x.known(1));
        Due.fails("known(-1)", x, Due.NO_SUCH, () -> x.known(-1));
        x.pass(1);
        Due.is("known(0), 100 at most", x.known(0), 100);
        x.store(0);
        x.pass(1);
        Due.is("known(0), shut", x.known(0), 98);
        x.pass(20);
        Due.is("known(0), shut for 21 days", x.known(0), 58);
        x.move(0, 1);
        Due.is("known(0), come by less than 60", x.known(0), 58);
        x.pass(1);
        Due.is("known(0), behind its day of coming", x.known(0), 56);
        x.pass(1);
        Due.is("known(0), behind a day of trade", x.known(0), 61);
        x.toStall(0);
        Due.is("known(0), come by 60 at most", x.known(0), 60);
        x.pass(3);
        Due.is("known(0), 58 and two days", x.known(0), 68);
        x.pass(7);
        Due.is("known(0), 100 at most again", x.known(0), 100);
        x.move(0, 2);
        x.store(0);
        Due.is("known(0), moved and then stored", x.known(0), 60);
        x.pass(30);
        Due.is("known(0), 0", x.known(0), 0);
        x.pass(5);
        Due.is("known(0), 0 at least", x.known(0), 0);
    }

    private static void promise23IsDusty() {
        TwofrontArcade x = Streets.of(4, 12);
        x.addWall(0, 1);
        x.addWall(1, 2);
        x.plan(1, 3);
        x.notice(1, 7);
        x.addShop(0, 1, 0, false, 0, 9);
        x.addShop(3, 1, 0, true, 0, 9);
        x.addCrew('d');
        x.addCrew('n');
        x.addCrew('h');
        x.send(0, 1);
        Due.fails("isDusty(2)", x, Due.NO_SUCH, () -> x.isDusty(2));
        Due.fails("isDusty(-1)", x, Due.NO_SUCH, () -> x.isDusty(-1));
        x.pass(7);
        Due.is("isDusty(0), not begun", x.isDusty(0), false);
        x.begin(1);
        Due.is("isDusty(0), goods that need not be clean", x.isDusty(0), true);
        Due.is("isDusty(1), no wall", x.isDusty(1), false);
        x.move(1, 2);
        Due.is("isDusty(1), coming beside it", x.isDusty(1), true);
        x.strike(1);
        Due.is("isDusty(0), in a strike", x.isDusty(0), false);
        x.pass(1);
        Due.is("isDusty(0), behind the strike", x.isDusty(0), true);
        x.send(0, -1);
        x.send(1, 1);
        x.send(2, 1);
        Due.is("isDusty(0), crews of other trades", x.isDusty(0), false);
        x.send(1, -1);
        x.send(2, -1);
        x.send(0, 1);
        x.toStall(0);
        Due.is("isDusty(0), on a stall", x.isDusty(0), false);
        x.store(1);
        Due.is("isDusty(1), shut", x.isDusty(1), false);
        x.move(0, 0);
        x.pass(3);
        Due.is("isDusty(0), done", x.isDusty(0), false);
    }
}
