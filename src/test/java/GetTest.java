/** Promise 5 (get): hits, fetches, confirmations and absent resources. */
public final class GetTest {
    public static void main(String[] args) {
        Check c = new Check("GetTest");
        wrongInputs(c);
        freshness(c);
        knownTags(c);
        variants(c);
        fetched(c);
        notStored(c);
        confirmed(c);
        confirmedButGone(c);
        confirmedInTheQueue(c);
        absent(c);
        noCacheInTheEntry(c);
        c.end();
    }

    private static FrontCache withEntry(String control, boolean varies) {
        FrontCache x = new FrontCache(12);
        Check.publish(x, control, 1, 2, varies);
        Check.fetch(x, 1, 0);
        return x;
    }

    private static void wrongInputs(Check c) {
        FrontCache x = new FrontCache(12);
        c.due("get(-1, 0, 0)", x.get(-1, 0, 0), -1);
        c.due("get(8, 0, 0)", x.get(8, 0, 0), -1);
        c.due("get(0, -1, 0)", x.get(0, -1, 0), -1);
        c.due("get(0, 4, 0)", x.get(0, 4, 0), -1);
        c.due("get(0, 0, -1)", x.get(0, 0, -1), -1);
        c.due("get(0, 0, least)", x.get(0, 0, Integer.MIN_VALUE), -1);
        c.due("flights()", x.flights(), 0);
        c.due("get(7, 3, greatest)", x.get(7, 3, Integer.MAX_VALUE), 1);
        c.due("get(0, 0, 0)", x.get(0, 0, 0), 2);
        c.due("flights()", x.flights(), 2);
    }

    private static void freshness(Check c) {
        FrontCache x = withEntry("max-age=2", false);
        x.get(1, 0, 0);
        c.answer(x, 2, 200, 4, 0, 1);
        x.tick();
        x.get(1, 3, 0);
        c.answer(x, 3, 200, 4, 1, 1);
        x.tick();
        x.get(1, 0, 0);
        c.answer(x, 4, 0, 0, 0, 0);
        c.flight(x, 0, 0, 2, 1, 4);
        FrontCache y = withEntry("max-age=0", false);
        c.entryTags(y, 4);
        y.get(1, 0, 0);
        c.answer(y, 2, 0, 0, 0, 0);
    }

    private static void knownTags(Check c) {
        FrontCache x = withEntry("max-age=2", false);
        x.get(1, 0, 4);
        c.answer(x, 2, 304, 4, 0, 1);
        x.get(1, 0, 5);
        c.answer(x, 3, 200, 4, 0, 1);
        Check.ticks(x, 2);
        x.get(1, 0, 4);
        x.deliver(0);
        c.flight(x, 0, 4, 2, 304, 4);
        x.tick();
        x.deliver(0);
        c.answer(x, 4, 304, 4, 1, 3);
        x.publish(1, 1, true);
        Check.ticks(x, 2);
        x.get(1, 3, 11);
        x.deliver(0);
        c.flight(x, 0, 4, 3, 200, 11);
        x.deliver(0);
        c.answer(x, 5, 304, 11, 0, 2);
    }

    private static void variants(Check c) {
        FrontCache x = withEntry("max-age=9", true);
        x.get(1, 0, 0);
        c.answer(x, 2, 200, 4, 0, 1);
        x.get(1, 1, 0);
        c.flight(x, 0, 0, 2, 1, 0);
        Check.settle(x);
        c.answer(x, 3, 200, 5, 0, 2);
        c.entryTags(x, 5, 4);
        x.get(1, 0, 0);
        c.entryTags(x, 4, 5);
        c.due("flights()", x.flights(), 0);
    }

    private static void fetched(Check c) {
        FrontCache x = new FrontCache(12);
        Check.publish(x, "max-age=5", 1, 2, false);
        x.tick();
        x.get(1, 0, 0);
        c.answer(x, 1, 0, 0, 0, 0);
        x.tick();
        x.deliver(0);
        Check.publish(x, "", 1, 3, true);
        Check.ticks(x, 3);
        x.deliver(0);
        c.answer(x, 1, 200, 4, 3, 2);
        c.due("entry(0, 2)", x.entry(0, 2), 3);
        c.due("entry(0, 3)", x.entry(0, 3), 5);
        c.due("entry(0, 4)", x.entry(0, 4), 2);
        x.tick();
        c.answer(x, 1, 200, 4, 3, 2);
        c.due("entry(0, 2)", x.entry(0, 2), 4);
    }

    private static void notStored(Check c) {
        FrontCache x = new FrontCache(8);
        Check.publish(x, "max-age=9", 1, 9, false);
        Check.fetch(x, 1, 0);
        c.answer(x, 1, 200, 4, 0, 2);
        c.due("entries() behind a size above the capacity", x.entries(), 0);
        Check.publish(x, "max-age=9", 1, 8, false);
        Check.get(x, "no-store", 1, 0, 0);
        Check.settle(x);
        c.answer(x, 2, 200, 8, 0, 2);
        c.due("entries() behind no-store", x.entries(), 0);
        x.get(1, 0, 0);
        Check.settle(x);
        c.entryTags(x, 8);
        x.publish(1, 1, false);
        Check.fetch(x, 1, 0);
        c.answer(x, 4, 200, 12, 0, 2);
        c.entryTags(x, 8);
    }

    private static void confirmed(Check c) {
        FrontCache x = new FrontCache(12);
        Check.publish(x, "max-age=3", 1, 2, false);
        Check.publish(x, "max-age=9", 3, 2, false);
        Check.fetch(x, 1, 0);
        Check.fetch(x, 3, 0);
        Check.ticks(x, 3);
        x.get(1, 0, 0);
        c.flight(x, 0, 0, 3, 1, 4);
        x.deliver(0);
        c.entryTags(x, 8, 4);
        Check.ticks(x, 2);
        x.deliver(0);
        c.answer(x, 3, 200, 4, 2, 3);
        c.entryTags(x, 4, 8);
        c.due("entry(0, 2)", x.entry(0, 2), 2);
        c.due("entry(0, 3)", x.entry(0, 3), 3);
        x.get(1, 0, 0);
        c.answer(x, 4, 200, 4, 2, 1);
        Check.fetch(x, 1, 0);
        c.answer(x, 5, 200, 4, 0, 3);
    }

    private static void confirmedButGone(Check c) {
        FrontCache x = new FrontCache(4);
        Check.publish(x, "max-age=9", 1, 3, false);
        Check.publish(x, "max-age=9", 2, 3, false);
        Check.fetch(x, 1, 0);
        Check.get(x, "no-cache", 1, 0, 0);
        x.deliver(0);
        x.tick();
        Check.get(x, "", 2, 0, 0);
        x.deliver(1);
        x.deliver(1);
        c.entryTags(x, 8);
        x.deliver(0);
        c.answer(x, 2, 200, 4, 1, 3);
        c.entryTags(x, 8);
    }

    private static void confirmedInTheQueue(Check c) {
        FrontCache x = withEntry("max-age=9", false);
        Check.get(x, "no-cache", 1, 0, 0);
        Check.get(x, "no-cache", 1, 0, 0);
        x.publish(1, 2, false);
        x.deliver(0);
        x.publish(1, 2, true);
        x.deliver(0);
        c.answer(x, 2, 200, 8, 0, 2);
        c.flight(x, 0, 0, 3, 1, 4);
        x.deliver(0);
        c.flight(x, 0, 4, 3, 200, 12);
        FrontCache y = withEntry("max-age=9", false);
        Check.get(y, "no-cache", 1, 0, 0);
        y.get(3, 0, 0);
        Check.get(y, "no-cache", 1, 0, 0);
        y.publish(1, 1, false);
        Check.settle(y);
        c.answer(y, 4, 200, 8, 0, 2);
    }

    private static void absent(Check c) {
        FrontCache x = withEntry("max-age=9", true);
        Check.fetch(x, 1, 1);
        c.entryTags(x, 5, 4);
        x.withdraw(1);
        Check.get(x, "no-cache", 1, 0, 4);
        x.deliver(0);
        c.flight(x, 0, 4, 3, 404, 0);
        c.entryTags(x, 5, 4);
        x.deliver(0);
        c.answer(x, 3, 404, 0, 0, 0);
        c.entryTags(x, 5);
        Check.fetch(x, 1, 2);
        c.entryTags(x, 5);
    }

    private static void noCacheInTheEntry(Check c) {
        FrontCache x = withEntry("max-age=9,no-cache", false);
        c.entryTags(x, 4);
        x.get(1, 0, 0);
        c.answer(x, 2, 0, 0, 0, 0);
        Check.settle(x);
        c.answer(x, 2, 200, 4, 0, 3);
        c.entryTags(x, 4);
        Check.get(x, "only-if-cached", 1, 0, 0);
        c.answer(x, 3, 504, 0, 0, 0);
    }
}
