/** Promises 3 (publish), 4 (withdraw) and 20 (version). */
public final class ResourceTest {
    public static void main(String[] args) {
        Check c = new Check("ResourceTest");
        publishing(c);
        wrongInputs(c);
        withdrawing(c);
        stoppedOwners(c);
        changesBesideTheFront(c);
        c.end();
    }

    private static void publishing(Check c) {
        FrontCache x = new FrontCache(12);
        c.due("publish(0, 1, false)", x.publish(0, 1, false), 1);
        c.due("publish(7, 9, true)", x.publish(7, 9, true), 2);
        c.due("publish(0, 9, true)", x.publish(0, 9, true), 3);
        c.due("version(0)", x.version(0), 3);
        c.due("version(7)", x.version(7), 2);
        c.due("version(1)", x.version(1), 0);
        c.due("version(-1)", x.version(-1), 0);
        c.due("version(8)", x.version(8), 0);
        x.put(4, 1);
        Check.settle(x);
        c.due("version(4)", x.version(4), 4);
        c.due("publish(4, 2, false)", x.publish(4, 2, false), 5);
        Check.publish(x, "max-age=8", 7, 6, true);
        Check.fetch(x, 7, 3);
        c.due("entry(0, 0)", x.entry(0, 0), 7);
        c.due("entry(0, 1)", x.entry(0, 1), 27);
        c.due("entry(0, 3)", x.entry(0, 3), 8);
        c.due("entry(0, 4)", x.entry(0, 4), 6);
        c.due("entry(0, 5)", x.entry(0, 5), 3);
    }

    private static void wrongInputs(Check c) {
        FrontCache x = new FrontCache(12);
        x.publish(1, 1, false);
        c.due("publish(-1, 1, false)", x.publish(-1, 1, false), -1);
        c.due("publish(8, 1, false)", x.publish(8, 1, false), -1);
        c.due("publish(1, 0, false)", x.publish(1, 0, false), -1);
        c.due("publish(1, 10, false)", x.publish(1, 10, false), -1);
        c.due("publish(1, least, false)", x.publish(1, Integer.MIN_VALUE, false), -1);
        c.due("version(1)", x.version(1), 1);
        c.due("publish(1, 1, false)", x.publish(1, 1, false), 2);
    }

    private static void withdrawing(Check c) {
        FrontCache x = new FrontCache(12);
        c.due("withdraw(3)", x.withdraw(3), false);
        Check.publish(x, "max-age=9", 3, 2, true);
        c.due("withdraw(3)", x.withdraw(3), true);
        c.due("version(3)", x.version(3), 0);
        c.due("withdraw(3)", x.withdraw(3), false);
        c.due("withdraw(-1)", x.withdraw(-1), false);
        c.due("withdraw(8)", x.withdraw(8), false);
        Check.fetch(x, 3, 0);
        c.answer(x, 1, 404, 0, 0, 0);
        c.due("put(3, 1)", x.put(3, 1), 2);
        Check.settle(x);
        c.due("version(3)", x.version(3), 2);
        Check.fetch(x, 3, 3);
        c.answer(x, 3, 200, 8, 0, 2);
        c.due("entries()", x.entries(), 0);
    }

    private static void stoppedOwners(Check c) {
        FrontCache x = new FrontCache(12);
        x.power(0, false);
        c.due("publish(1, 1, false)", x.publish(1, 1, false), 1);
        c.due("version(1)", x.version(1), 1);
        c.due("withdraw(1)", x.withdraw(1), true);
        c.due("version(1)", x.version(1), 0);
        x.publish(1, 1, false);
        Check.bringDown(x, 1);
        c.due("withdraw(1) of a DOWN origin", x.withdraw(1), true);
        c.due("publish(1, 1, false) of a DOWN origin", x.publish(1, 1, false), 3);
    }

    private static void changesBesideTheFront(Check c) {
        FrontCache x = new FrontCache(12);
        Check.publish(x, "max-age=9", 1, 2, false);
        Check.fetch(x, 1, 0);
        x.publish(1, 3, false);
        c.entryTags(x, 4);
        x.withdraw(1);
        c.entryTags(x, 4);
        c.due("get(1, 0, 0)", x.get(1, 0, 0), 2);
        c.answer(x, 2, 200, 4, 0, 1);
    }
}
