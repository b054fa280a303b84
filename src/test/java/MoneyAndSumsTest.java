/** Promises 37 to 43: francs taken, lost and paid, and the sums over all. */
public final class MoneyAndSumsTest {
    public static void main(String[] args) {
        promise37Took();
        promise38LostInTheOrderOfCauses();
        promise38LostOnAStall();
        promise38LostByDust();
        promise38WrongInputs();
        promise39Rent();
        promise40Fund();
        promise41Checksum();
        promises42And43Shares();
        fullStreet();
        Due.end("MoneyAndSumsTest");
    }

    private static void losses(String when, TwofrontArcade x, int shop, long took, long h, long m, long d, long s) {
        Due.is("took, " + when, x.took(shop), took);
        Due.is("lost by h, " + when, x.lost(shop, 'h'), h);
        Due.is("lost by m, " + when, x.lost(shop, 'm'), m);
        Due.is("lost by d, " + when, x.lost(shop, 'd'), d);
        Due.is("lost by s, " + when, x.lost(shop, 's'), s);
    }

    private static void promise37Took() {
        TwofrontArcade x = Streets.of(2, 12);
        x.addShop(0, 9, 0, false, 0, 0);
        for (int weekday = 0; weekday < 7; weekday++) {
            x.setPeople(weekday, 999);
        }
        Due.fails("took(1)", x, Due.NO_SUCH, () -> x.took(1));
        Due.fails("took(-1)", x, Due.NO_SUCH, () -> x.took(-1));
        Due.is("took(0) at first", x.took(0), 0);
        for (int i = 0; i < 37; i++) {
            x.pass(27);
        }
        losses("999 days", x, 0, 8982009, 0, 0, 0, 0);
    }

    /** Each part is cut by itself: 37 by 80, then by 58, then by half. */
    private static void promise38LostInTheOrderOfCauses() {
        TwofrontArcade x = Streets.of(4, 12);
        x.addWall(1, 2);
        x.addShop(3, 1, 0, true, 0, 9);
        Streets.beginAt(x, 30, 2);
        x.addCrew('d');
        x.send(0, 2);
        x.move(0, 1);
        for (int weekday = 0; weekday < 7; weekday++) {
            x.setPeople(weekday, 37);
        }
        x.pass(1);
        losses("the day of coming", x, 0, 700, 0, 0, 0, 37);
        Due.is("known(0)", x.known(0), 58);
        x.pass(1);
        losses("a day of hoardings, habits and dust", x, 0, 708, 8, 13, 8, 37);
        x.pass(1);
        losses("another one, known by 63", x, 0, 717, 16, 24, 17, 37);
    }

    private static void promise38LostOnAStall() {
        TwofrontArcade x = Streets.of(4, 12);
        x.addWall(0, 1);
        x.addShop(3, 3, 0, true, 0, 9);
        Streets.beginAt(x, 30, 1);
        x.addCrew('d');
        x.send(0, 1);
        x.toStall(0);
        x.setPeople(1, 33);
        x.pass(1);
        losses("the day of coming onto a stall", x, 0, 2100, 0, 0, 0, 300);
        x.pass(1);
        // 99 is seen by 79, known by 45, of which 22 is a stall's half; no dust comes to a stall
        losses("a day on a stall", x, 0, 2122, 20, 57, 0, 300);
        x.store(0);
        x.pass(2);
        losses("two days shut", x, 0, 2122, 20, 57, 0, 900);
    }

    private static void promise38LostByDust() {
        TwofrontArcade x = Streets.of(8, 12);
        x.addWall(0, 7);
        x.addWall(1, 7);
        x.addShop(0, 1, 0, true, 0, 9);
        x.addShop(1, 1, 0, false, 0, 9);
        x.addShop(2, 1, 0, true, 0, 9);
        Streets.beginAt(x, 30, 7);
        x.addCrew('d');
        x.send(0, 7);
        x.setPeople(0, 25);
        x.pass(1);
        losses("clean goods", x, 0, 712, 0, 0, 13, 0);
        losses("goods that need not be clean", x, 1, 725, 0, 0, 0, 0);
        losses("no wall with dust", x, 2, 725, 0, 0, 0, 0);
        x.send(0, -1);
        x.pass(1);
        losses("no dust", x, 0, 812, 0, 0, 13, 0);
    }

    private static void promise38WrongInputs() {
        TwofrontArcade x = Streets.of(2, 12);
        x.addShop(0, 1, 0, true, 0, 9);
        Due.fails("lost(1, 'x')", x, Due.NO_SUCH, () -> x.lost(1, 'x'));
        Due.fails("lost(-1, 'h')", x, Due.NO_SUCH, () -> x.lost(-1, 'h'));
        Due.fails("lost(0, 'x')", x, Due.BAD, () -> x.lost(0, 'x'));
        Due.fails("lost(0, 'c')", x, Due.BAD, () -> x.lost(0, 'c'));
        Due.fails("lost of a far sign", x, Due.BAD, () -> x.lost(0, (char) 0x168));
    }

    private static void promise39Rent() {
        TwofrontArcade x = Streets.of(2, 12);
        x.addShop(1, 1, 0, false, 0, 9);
        Due.fails("rent(1)", x, Due.NO_SUCH, () -> x.rent(1));
        Due.fails("rent(-1)", x, Due.NO_SUCH, () -> x.rent(-1));
        Due.is("rent(0) at first", x.rent(0), 0);
        x.setPeople(0, 19);
        x.setPeople(1, 1);
        x.pass(1);
        Due.is("rent(0) of 19", x.rent(0), 1);
        x.pass(1);
        Due.is("rent(0) of 20", x.rent(0), 2);
    }

    /** Each shop is cut by itself, its three causes together; what it lost shut is not paid. */
    private static void promise40Fund() {
        TwofrontArcade x = Streets.of(8, 12);
        x.addWall(2, 3);
        x.addShop(1, 1, 0, false, 0, 9);
        x.addShop(2, 1, 0, true, 0, 9);
        Streets.beginAt(x, 30, 3);
        x.addCrew('d');
        x.send(0, 3);
        for (int weekday = 0; weekday < 7; weekday++) {
            x.setPeople(weekday, 5);
        }
        Due.is("fund() at first", x.fund(), 0);
        x.pass(1);
        losses("the first shop", x, 0, 704, 1, 0, 0, 0);
        losses("the second shop", x, 1, 702, 1, 0, 2, 0);
        Due.is("fund(), 1 and 3 halved", x.fund(), 1);
        x.pass(1);
        Due.is("fund(), 2 and 6 halved", x.fund(), 4);
        x.toStall(0);
        x.pass(2);
        losses("the first shop on a stall", x, 0, 809 - 100, 2, 4, 0, 5);
        Due.is("fund(), 6 and 12 halved", x.fund(), 9);
        x.store(0);
        x.pass(1);
        Due.is("fund(), 6 and 15 halved", x.fund(), 10);
    }

    private static void promise41Checksum() {
        TwofrontArcade x = Streets.of(3, 12);
        x.plan(1, 9);
        Due.is("checksum() without shops", x.checksum(), (((7L * 31) * 31 + 9) * 31) * 31);
        x.addShop(0, 2, 0, false, 0, 9);
        x.addShop(2, 3, 0, false, 0, 9);
        x.pass(1);
        x.store(0);
        x.toStall(1);
        x.pass(1);
        long sum = 7;
        for (long part : new long[] {200, 98, 's', 300, 58, 't', 0, 9, 0, 2}) {
            sum = sum * 31 + part;
        }
        Due.is("checksum()", x.checksum(), sum);
    }

    /** Ten units, ten shops and four crews, as many as there can be. */
    private static void fullStreet() {
        TwofrontArcade x = Streets.of(10, 12);
        for (int i = 0; i < 4; i++) {
            x.addCrew('n');
        }
        for (int i = 0; i < 10; i++) {
            x.addShop(i, i < 9 ? i + 1 : 9, 0, false, 0, 9);
        }
        x.pass(1);
        x.toStall(9);
        x.pass(2);
        Due.is("took(9) of ten", x.took(9), 900 + 261);
        Due.is("lost(9, 'm') of ten", x.lost(9, 'm'), 639);
        Due.is("fund() of ten", x.fund(), 319);
        Due.is("openShare() of ten", x.openShare(), 1f);
        Due.is("meanTaken() of ten", x.meanTaken(), (45 * 300 + 1161) / 10.0);
        x.store(0);
        Due.is("openShare() of nine by ten", x.openShare(), 9f / 10f);
        Due.is("isSound() of ten", x.isSound(), true);
    }

    private static void promises42And43Shares() {
        TwofrontArcade x = Streets.of(4, 12);
        Due.fails("openShare(), no shops", x, Due.NONE, x::openShare);
        Due.fails("meanTaken(), no shops", x, Due.NONE, x::meanTaken);
        x.addShop(0, 1, 0, false, 0, 9);
        Due.is("openShare() of one", x.openShare(), 1f);
        Due.is("meanTaken() at first", x.meanTaken(), 0.0);
        x.addShop(1, 2, 0, false, 0, 9);
        x.addShop(2, 2, 0, false, 0, 9);
        x.pass(1);
        Due.is("meanTaken() of 500 by 3", x.meanTaken(), 500.0 / 3.0);
        x.store(2);
        Due.is("openShare() of 2 by 3", x.openShare(), 2f / 3f);
        x.toStall(1);
        Due.is("openShare(), one on a stall", x.openShare(), 2f / 3f);
        x.store(1);
        x.store(0);
        Due.is("openShare() of none by 3", x.openShare(), 0f);
        Due.is("a sum", x.openShare() + x.meanTaken(), 500.0 / 3.0);
    }
}
