import java.lang.reflect.Array;
import java.lang.reflect.Field;

/**
 * Promises 26 and 44: areWide and isSound. No run of calls makes either false, so that this test breaks what an object
 * holds from outside; it knows the names of the fields for that.
 */
public final class SoundnessTest {
    public static void main(String[] args) throws ReflectiveOperationException {
        Due.is("isSound() of a new object", new TwofrontArcade().isSound(), true);
        areWide();
        works();
        unitsAndShops();
        leases();
        money();
        Due.end("SoundnessTest");
    }

    /** Six wide units with the walls 0 1 and 2 3, a shop in the unit 5, and a work of 9 days on in the unit 0. */
    private static TwofrontArcade street() {
        TwofrontArcade x = Streets.of(6, 12);
        x.addWall(0, 1);
        x.addWall(2, 3);
        x.addShop(5, 2, 90, true, 0, 9);
        x.plan(0, 9);
        x.plan(2, 9);
        x.plan(4, 9);
        x.notice(0, 7);
        x.pass(7);
        x.begin(0);
        x.pass(1);
        Due.is("isSound() of a street", x.isSound(), true);
        return x;
    }

    private static void areWide() throws ReflectiveOperationException {
        TwofrontArcade x = street();
        set(x, "shops", 0, "people", 301);
        Due.is("areWide(), 301 pass 300", x.areWide(), false);
        Due.is("isSound(), 301 pass 300", x.isSound(), false);
        set(x, "shops", 0, "people", 300);
        Due.is("areWide(), 300 pass 300", x.areWide(), true);
        Due.is("isSound(), 300 pass 300", x.isSound(), true);
        set(x, "units", 5, "width", 11);
        Due.is("areWide(), 300 pass 275", x.areWide(), false);
        TwofrontArcade y = street();
        y.addShop(1, 1, 0, false, 0, 9);
        set(y, "shops", 1, "people", 251);
        Due.is("areWide(), 251 pass the hoarding at the unit 0", y.areWide(), false);
    }

    private static void works() throws ReflectiveOperationException {
        TwofrontArcade x = street();
        set(x, "units", 2, "work", 'w');
        Due.is("isSound(), two on", x.isSound(), true);
        set(x, "units", 4, "work", 'w');
        Due.is("isSound(), three on", x.isSound(), false);

        TwofrontArcade y = street();
        set(y, "units", 1, "work", 'w');
        Due.is("isSound(), two on beside a wall", y.isSound(), false);

        TwofrontArcade z = street();
        z.rest(2, 4);
        Due.is("isSound(), one planned rests", z.isSound(), true);
        set(z, "units", 2, "work", 'w');
        Due.is("isSound(), one on ahead of another", z.isSound(), false);
        set(z, "units", 0, "work", 'p');
        z.rest(0, 4);
        set(z, "units", 2, "work", 'p');
        set(z, "units", 0, "work", 'w');
        Due.is("isSound(), the first one on ahead of another", z.isSound(), false);
        set(z, "units", 2, "work", 'w');
        set(z, "units", 4, "work", 'd');
        Due.is("isSound(), one on behind another", z.isSound(), true);
    }

    private static void unitsAndShops() throws ReflectiveOperationException {
        TwofrontArcade x = street();
        x.addShop(3, 1, 0, false, 0, 9);
        Due.is("isSound(), two shops", x.isSound(), true);
        set(x, "shops", 1, "unit", 5);
        Due.is("isSound(), two shops in a unit", x.isSound(), false);

        TwofrontArcade y = street();
        set(y, "shops", 0, "unit", 0);
        Due.is("isSound(), a shop where a work is on", y.isSound(), false);
        set(y, "shops", 0, "unit", 2);
        Due.is("isSound(), a shop where a work is planned", y.isSound(), true);
    }

    private static void leases() throws ReflectiveOperationException {
        TwofrontArcade x = street();
        x.store(0);
        x.pass(9);
        Due.is("isSound(), shut on 9 days of 9", x.isSound(), true);
        set(x, "shops", 0, "lease", 8);
        Due.is("isSound(), shut on 9 days of 8", x.isSound(), false);
    }

    private static void money() throws ReflectiveOperationException {
        TwofrontArcade x = street();
        long taken = x.took(0);
        set(x, "shops", 0, "taken", taken + 1);
        Due.is("isSound(), one franc too many", x.isSound(), false);
        set(x, "shops", 0, "taken", taken - 1);
        Due.is("isSound(), one franc too few", x.isSound(), false);
        set(x, "shops", 0, "taken", taken);
        Due.is("isSound(), all francs", x.isSound(), true);
        long[] losses = (long[]) get(x, "shops", 0, "losses");
        for (int cause = 0; cause < losses.length; cause++) {
            losses[cause]++;
            Due.is("isSound(), one franc too many lost by " + cause, x.isSound(), false);
            losses[cause]--;
        }
    }

    private static Object part(TwofrontArcade x, String row, int number) throws ReflectiveOperationException {
        Field field = TwofrontArcade.class.getDeclaredField(row);
        field.setAccessible(true);
        return Array.get(field.get(x), number);
    }

    private static Object get(TwofrontArcade x, String row, int number, String name)
            throws ReflectiveOperationException {
        Object part = part(x, row, number);
        Field field = part.getClass().getDeclaredField(name);
        field.setAccessible(true);
        return field.get(part);
    }

    private static void set(TwofrontArcade x, String row, int number, String name, Object value)
            throws ReflectiveOperationException {
        Object part = part(x, row, number);
        Field field = part.getClass().getDeclaredField(name);
        field.setAccessible(true);
        field.set(part, value);
    }
}
