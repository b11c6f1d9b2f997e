/** Promises 16 (entries) and 17 (entry), and what is taken away when an entry is stored. */
public final class StoreTest {
    public static void main(String[] args) {
        Check c = new Check("StoreTest");
        tellingOfEntries(c);
        usedLongestAgo(c);
        makingRoom(c);
        fromVaryingToNot(c);
        fromNotVaryingToVarying(c);
        theSameAgain(c);
        aFullStore(c);
        c.end();
    }

    private static void tellingOfEntries(Check c) {
        FrontCache x = new FrontCache(12);
        Check.publish(x, "max-age=9", 1, 2, true);
        Check.publish(x, "s-maxage=7", 2, 3, false);
        Check.fetch(x, 1, 2);
        x.tick();
        Check.fetch(x, 2, 3);
        x.tick();
        c.due("entries()", x.entries(), 2);
        entry(c, x, 0, 2, 8, 1, 7, 3, -2);
        entry(c, x, 1, 1, 6, 2, 9, 2, 2);
        c.due("entry(2, 0)", x.entry(2, 0), -1);
        c.due("entry(-1, 0)", x.entry(-1, 0), -1);
        c.due("entry(least, 0)", x.entry(Integer.MIN_VALUE, 0), -1);
        c.due("entry(greatest, 0)", x.entry(Integer.MAX_VALUE, 0), -1);
        c.due("entry(0, -1)", x.entry(0, -1), -1);
        c.due("entry(0, 6)", x.entry(0, 6), -1);
        Check.ticks(x, 20);
        c.due("entries() when none is fresh", x.entries(), 2);
        c.due("entry(1, 2)", x.entry(1, 2), 22);
    }

    private static void entry(Check c, FrontCache x, int k, int... due) {
        for (int w = 0; w < due.length; w++) {
            c.due("entry(" + k + ", " + w + ")", x.entry(k, w), due[w]);
        }
    }

    /** Entries of sizes 3, 3, 3 at paths 1, 2, 3 with tags 4, 8, 12, in a store of 10. */
    private static FrontCache three() {
        FrontCache x = new FrontCache(10);
        for (int path = 1; path <= 3; path++) {
            Check.publish(x, "max-age=99", path, 3, false);
            Check.fetch(x, path, 0);
        }
        return x;
    }

    private static void usedLongestAgo(Check c) {
        FrontCache x = three();
        c.entryTags(x, 12, 8, 4);
        x.get(1, 0, 0);
        c.entryTags(x, 4, 12, 8);
        Check.get(x, "only-if-cached,no-cache", 2, 0, 0);
        c.entryTags(x, 4, 12, 8);
        x.get(3, 0, 12);
        c.entryTags(x, 12, 4, 8);
        Check.fetch(x, 2, 0);
        c.entryTags(x, 8, 12, 4);
    }

    private static void makingRoom(Check c) {
        FrontCache x = three();
        Check.publish(x, "max-age=99", 4, 1, false);
        Check.fetch(x, 4, 0);
        c.entryTags(x, 16, 12, 8, 4);
        Check.publish(x, "max-age=99", 5, 1, false);
        Check.fetch(x, 5, 0);
        c.entryTags(x, 20, 16, 12, 8);
        Check.publish(x, "max-age=99", 6, 8, false);
        Check.fetch(x, 6, 0);
        c.entryTags(x, 24, 20, 16);
        Check.publish(x, "max-age=99", 7, 9, false);
        Check.fetch(x, 7, 0);
        c.entryTags(x, 28);
        Check.publish(x, "max-age=99", 0, 1, false);
        Check.fetch(x, 0, 0);
        c.entryTags(x, 32, 28);
    }

    private static void fromVaryingToNot(Check c) {
        FrontCache x = new FrontCache(10);
        Check.publish(x, "max-age=99", 1, 2, true);
        Check.publish(x, "max-age=99", 3, 2, false);
        Check.fetch(x, 1, 0);
        Check.fetch(x, 3, 0);
        Check.fetch(x, 1, 1);
        Check.fetch(x, 1, 3);
        c.entryTags(x, 7, 5, 8, 4);
        Check.publish(x, "max-age=99", 1, 8, false);
        Check.fetch(x, 1, 2);
        c.entryTags(x, 12, 8);
        x.get(1, 0, 0);
        c.due("flights()", x.flights(), 0);
    }

    private static void fromNotVaryingToVarying(Check c) {
        FrontCache x = new FrontCache(10);
        Check.publish(x, "max-age=99", 1, 2, false);
        Check.fetch(x, 1, 0);
        Check.publish(x, "max-age=99", 1, 2, true);
        Check.fetch(x, 1, 3);
        c.entryTags(x, 11);
        Check.fetch(x, 1, 2);
        c.entryTags(x, 10, 11);
        Check.publish(x, "max-age=99", 1, 3, true);
        Check.fetch(x, 1, 3);
        c.entryTags(x, 15, 10);
    }

    private static void theSameAgain(Check c) {
        FrontCache x = new FrontCache(10);
        Check.publish(x, "max-age=99", 3, 4, false);
        Check.publish(x, "max-age=99", 1, 6, false);
        Check.fetch(x, 3, 0);
        Check.fetch(x, 1, 0);
        Check.publish(x, "max-age=99", 1, 6, false);
        Check.fetch(x, 1, 0);
        c.entryTags(x, 12, 4);
        Check.publish(x, "max-age=99", 3, 5, false);
        Check.fetch(x, 3, 0);
        c.entryTags(x, 16);
    }

    private static void aFullStore(Check c) {
        FrontCache x = new FrontCache(40);
        for (int path = 0; path < 8; path++) {
            Check.publish(x, "max-age=99", path, 1, true);
        }
        for (int i = 0; i < 32; i++) {
            Check.load(x, i / 4, i % 4);
        }
        c.due("entries()", x.entries(), 32);
        c.due("entry(31, 1)", x.entry(31, 1), 4);
        c.due("entry(0, 1)", x.entry(0, 1), 35);
        c.due("entry(32, 1)", x.entry(32, 1), -1);
    }
}
