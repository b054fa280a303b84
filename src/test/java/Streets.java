/** Streets that several tests begin with. */
final class Streets {
    private Streets() {
    }

    /** A street of so many units of one width, without walls. */
    static TwofrontArcade of(int units, int width) {
        TwofrontArcade x = new TwofrontArcade();
        for (int i = 0; i < units; i++) {
            x.addUnit(width);
        }
        return x;
    }

    /** A street of wide units in which works of 9 days are on at the units that are named, on the day 7. */
    static TwofrontArcade withWorksOn(int units, int... at) {
        TwofrontArcade x = of(units, 12);
        beginAt(x, 9, at);
        return x;
    }

    /** Plans works, tells them 7 days ahead, lets these go by, and begins the works. */
    static void beginAt(TwofrontArcade x, int days, int... at) {
        for (int unit : at) {
            x.plan(unit, days);
            x.notice(unit, x.day() + 7);
        }
        x.pass(7);
        for (int unit : at) {
            x.begin(unit);
        }
    }

    /** Lets a planned and told work be done, by a crew of the number 0 that is there already. */
    static void finish(TwofrontArcade x, int unit) {
        x.begin(unit);
        x.send(0, unit);
        x.pass(x.left(unit));
        x.send(0, -1);
    }

    /** Lets days go by up to one that is told. */
    static void passTo(TwofrontArcade x, int day) {
        while (x.day() < day) {
            x.pass(Math.min(day - x.day(), 30));
        }
    }
}
