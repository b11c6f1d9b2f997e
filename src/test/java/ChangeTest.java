/** Promises 6 (put) and 7 (delete). */
public final class ChangeTest {
    public static void main(String[] args) {
        Check c = new Check("ChangeTest");
        wrongInputs(c);
        putKeepsControlAndVaries(c);
        putOfAnAbsentOne(c);
        deleting(c);
        whatIsTakenAway(c);
        changesNobodyWaitsForAnyMore(c);
        c.end();
    }

    private static void wrongInputs(Check c) {
        FrontCache x = new FrontCache(12);
        c.due("put(-1, 1)", x.put(-1, 1), -1);
        c.due("put(8, 1)", x.put(8, 1), -1);
        c.due("put(0, 0)", x.put(0, 0), -1);
        c.due("put(0, 10)", x.put(0, 10), -1);
        c.due("delete(-1)", x.delete(-1), -1);
        c.due("delete(8)", x.delete(8), -1);
        c.due("flights()", x.flights(), 0);
        c.due("put(0, 1)", x.put(0, 1), 1);
        c.due("put(7, 9)", x.put(7, 9), 2);
        c.due("delete(1)", x.delete(1), 3);
        c.flight(x, 0, 2, 1, 2, 0);
        c.flight(x, 1, 1, 1, 2, 0);
        c.flight(x, 2, 0, 1, 3, 0);
    }

    private static void putKeepsControlAndVaries(Check c) {
        FrontCache x = new FrontCache(12);
        Check.publish(x, "max-age=7", 1, 2, true);
        Check.type(x, "max-age=5");
        x.put(1, 6);
        c.due("version(1)", x.version(1), 1);
        x.deliver(0);
        c.due("version(1)", x.version(1), 2);
        c.flight(x, 0, 4, 1, 204, 0);
        c.answer(x, 1, 0, 0, 0, 0);
        x.deliver(0);
        c.answer(x, 1, 204, 0, 0, 0);
        Check.get(x, "", 1, 3, 0);
        Check.settle(x);
        c.answer(x, 2, 200, 11, 0, 2);
        c.due("entry(0, 3)", x.entry(0, 3), 7);
        c.due("entry(0, 4)", x.entry(0, 4), 6);
        c.due("entry(0, 5)", x.entry(0, 5), 3);
    }

    private static void putOfAnAbsentOne(Check c) {
        FrontCache x = new FrontCache(12);
        Check.publish(x, "max-age=7", 1, 2, true);
        x.delete(1);
        x.put(1, 3);
        Check.settle(x);
        c.answer(x, 1, 204, 0, 0, 0);
        c.answer(x, 2, 204, 0, 0, 0);
        c.due("version(1)", x.version(1), 2);
        Check.fetch(x, 1, 3);
        c.answer(x, 3, 200, 8, 0, 2);
        c.due("entries()", x.entries(), 0);
    }

    private static void deleting(Check c) {
        FrontCache x = new FrontCache(12);
        x.publish(6, 2, false);
        x.delete(6);
        c.due("version(6)", x.version(6), 1);
        x.deliver(0);
        c.due("version(6)", x.version(6), 0);
        c.flight(x, 0, 6, 1, 204, 0);
        x.deliver(0);
        c.answer(x, 1, 204, 0, 0, 0);
        x.delete(6);
        x.deliver(0);
        c.flight(x, 0, 6, 2, 404, 0);
        x.deliver(0);
        c.answer(x, 2, 404, 0, 0, 0);
        c.due("publish(6, 1, false)", x.publish(6, 1, false), 2);
    }

    /** The front with entries 4 .. 7 of path 1 and entry 8 of path 3. */
    private static FrontCache filled() {
        FrontCache x = new FrontCache(12);
        Check.publish(x, "max-age=99", 1, 1, true);
        Check.publish(x, "max-age=99", 3, 1, false);
        for (int variant = 0; variant < 4; variant++) {
            Check.fetch(x, 1, variant);
        }
        Check.fetch(x, 3, 0);
        return x;
    }

    private static void whatIsTakenAway(Check c) {
        FrontCache x = filled();
        x.put(1, 1);
        x.deliver(0);
        c.entryTags(x, 8, 7, 6, 5, 4);
        x.deliver(0);
        c.entryTags(x, 8);
        x = filled();
        x.delete(1);
        Check.settle(x);
        c.entryTags(x, 8);
        x = filled();
        x.withdraw(1);
        x.delete(1);
        Check.settle(x);
        c.answer(x, 6, 404, 0, 0, 0);
        c.entryTags(x, 8, 7, 6, 5, 4);
    }

    private static void changesNobodyWaitsForAnyMore(Check c) {
        FrontCache x = filled();
        x.put(3, 5);
        Check.ticks(x, 12);
        c.answer(x, 6, 504, 0, 0, 0);
        x.deliver(0);
        c.due("version(3)", x.version(3), 3);
        Check.settle(x);
        c.answer(x, 6, 504, 0, 0, 0);
        c.entryTags(x, 8, 7, 6, 5, 4);
    }
}
