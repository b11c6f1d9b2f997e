/** Promises 1 (a new object) and 18 (owner). */
public final class NewObjectTest {
    private static final int[] OWNERS = {2, 0, 1, 0, 1, 0, 2, 1};

    public static void main(String[] args) {
        Check c = new Check("NewObjectTest");
        nothingIsThere(c);
        owners(c);
        capacities(c);
        allOriginsRun(c);
        theDraftAndControlsAreEmpty(c);
        c.end();
    }

    private static void nothingIsThere(Check c) {
        FrontCache x = new FrontCache(12);
        c.due("flights()", x.flights(), 0);
        c.due("entries()", x.entries(), 0);
        c.due("entry(0, 0)", x.entry(0, 0), -1);
        c.due("flight(0, 0)", x.flight(0, 0), -1);
        c.due("answer(1, 0)", x.answer(1, 0), -1);
        for (int path = -1; path <= 8; path++) {
            c.due("version(" + path + ")", x.version(path), 0);
        }
        for (int origin = 0; origin < 3; origin++) {
            c.due("waiting(" + origin + ")", x.waiting(origin), 0);
        }
        c.due("tick()", x.tick(), 1);
    }

    private static void owners(Check c) {
        FrontCache x = new FrontCache(12);
        for (int path = 0; path < 8; path++) {
            c.due("owner(" + path + ")", x.owner(path), OWNERS[path]);
        }
        c.due("owner(-1)", x.owner(-1), -1);
        c.due("owner(8)", x.owner(8), -1);
        c.due("owner(least)", x.owner(Integer.MIN_VALUE), -1);
        c.due("owner(greatest)", x.owner(Integer.MAX_VALUE), -1);
    }

    private static void capacities(Check c) {
        capacity(c, 1, 1);
        capacity(c, 11, 11);
        capacity(c, 40, 40);
        capacity(c, 0, 12);
        capacity(c, -5, 12);
        capacity(c, 41, 12);
        capacity(c, Integer.MAX_VALUE, 12);
        capacity(c, Integer.MIN_VALUE, 12);
    }

    /** Stores sizes that are 40 together, the greatest first, and says how much of them stays. */
    private static void capacity(Check c, int given, int due) {
        FrontCache x = new FrontCache(given);
        for (int path = 0; path < 8; path++) {
            Check.publish(x, "max-age=9", path, path == 0 ? 3 : 1, true);
        }
        for (int i = 0; i < 32; i++) {
            Check.load(x, i / 4, i % 4);
        }
        int filled = 0;
        for (int k = 0; k < x.entries(); k++) {
            filled += x.entry(k, 4);
        }
        c.due("sizes in capacity " + given, filled, due);
    }

    private static void allOriginsRun(Check c) {
        FrontCache x = new FrontCache(3);
        for (int origin = 0; origin < 3; origin++) {
            c.due("power(" + origin + ", true)", x.power(origin, true), false);
        }
        x.delete(1);
        x.delete(2);
        x.delete(0);
        Check.settle(x);
        c.answer(x, 1, 404, 0, 0, 0);
        c.answer(x, 2, 404, 0, 0, 0);
        c.answer(x, 3, 404, 0, 0, 0);
    }

    private static void theDraftAndControlsAreEmpty(Check c) {
        FrontCache x = new FrontCache(12);
        for (int i = 0; i < 40; i++) {
            c.due("type('a')", x.type('a'), true);
        }
        c.due("type('a') behind 40", x.type('a'), false);
        FrontCache y = new FrontCache(12);
        y.put(1, 1);
        Check.settle(y);
        Check.fetch(y, 1, 0);
        c.answer(y, 2, 200, 4, 0, 2);
        c.due("entries()", y.entries(), 0);
    }
}
