/** The edges of promises 3, 4, 12 and 20, and those that "Terms" names for origins; each test bears its sentence. */
public final class OriginEdgeTest {
    private static final int LEAST = Integer.MIN_VALUE;
    private static final int GREATEST = Integer.MAX_VALUE;
    private static final int[] NO_PATHS = {-1, 8, -8, 9, 256, LEAST, GREATEST};
    private static final int[] NO_SIZES = {0, 10, -1, 11, 257, LEAST, GREATEST};

    public static void main(String[] args) {
        Check c = new Check("OriginEdgeTest");
        publishArguments(c);
        versionsOfAllPathsTogether(c);
        tags(c);
        publishOfAStoppedOwner(c);
        withdrawArguments(c);
        versionArguments(c);
        powerArguments(c);
        powerChanges(c);
        stoppedTakesNothingIn(c);
        stoppedAnswersNoProbe(c);
        stoppedAndAnswersUnderWay(c);
        startedHasWhatItHad(c);
        theSameNumber(c);
        theSameNumberHasTheSameDate(c);
        theSameNumberOfChanges(c);
        aSmallerNumber(c);
        aGreaterNumber(c);
        getOfAnAbsentOne(c);
        getWithAnEntry(c);
        getWithAnEntryOfAnotherTag(c);
        putOfAnAbsentOne(c);
        putKeeps(c);
        deleteOfAnAbsentOne(c);
        c.end();
    }

    /** "-1 when there is no such path or size is not 1 .. 9" */
    private static void publishArguments(Check c) {
        FrontCache x = new FrontCache(12);
        for (int path : NO_PATHS) {
            c.due("publish(" + path + ", 1, true)", x.publish(path, 1, true), -1);
        }
        for (int size : NO_SIZES) {
            c.due("publish(1, " + size + ", false)", x.publish(1, size, false), -1);
        }
        for (int path = 0; path < 8; path++) {
            c.due("version(" + path + ")", x.version(path), 0);
        }
        c.due("publish(0, 1, false)", x.publish(0, 1, false), 1);
        c.due("publish(7, 9, true)", x.publish(7, 9, true), 2);
        c.due("publish(7, 10, true)", x.publish(7, 10, true), -1);
        c.due("publish(0, 0, true)", x.publish(0, 0, true), -1);
        c.due("version(0)", x.version(0), 1);
        c.due("version(7)", x.version(7), 2);
        c.due("flights()", x.flights(), 0);
    }

    /** "Versions are numbers 1, 2, 3, .. as they are made, those of all paths together." */
    private static void versionsOfAllPathsTogether(Check c) {
        FrontCache x = new FrontCache(12);
        for (int version = 1; version <= 20; version++) {
            int path = version * 3 % 8;
            c.due("publish", x.publish(path, 1, false), version);
            c.due("version(" + path + ")", x.version(path), version);
        }
        x.put(1, 1);
        c.due("publish before the PUT comes", x.publish(1, 1, false), 21);
        x.deliver(0);
        c.due("version(1)", x.version(1), 22);
        x.withdraw(1);
        x.delete(3);
        Check.settle(x);
        c.due("version(3)", x.version(3), 0);
        c.due("publish behind withdraw and DELETE", x.publish(1, 1, false), 23);
    }

    /** "4 * version, plus the variant if it varies" */
    private static void tags(Check c) {
        FrontCache x = new FrontCache(12);
        x.publish(1, 1, false);
        x.publish(3, 1, true);
        for (int variant = 0; variant < 4; variant++) {
            int plain = Check.load(x, 1, variant);
            c.answer(x, plain, 200, 4, 0, 2);
            int varying = Check.load(x, 3, variant);
            c.answer(x, varying, 200, 8 + variant, 0, 2);
        }
    }

    /** "(Also when the owner is stopped.)" */
    private static void publishOfAStoppedOwner(Check c) {
        FrontCache x = new FrontCache(12);
        x.power(0, false);
        c.due("publish(1, 1, false)", x.publish(1, 1, false), 1);
        c.due("version(1)", x.version(1), 1);
        c.due("publish(1, 10, false)", x.publish(1, 10, false), -1);
        c.due("withdraw(1)", x.withdraw(1), true);
        c.due("version(1)", x.version(1), 0);
        c.due("withdraw(1)", x.withdraw(1), false);
        Check.publish(x, "max-age=9", 1, 2, true);
        x.power(0, true);
        Check.load(x, 1, 1);
        c.answer(x, 1, 200, 9, 0, 2);
        c.entry(x, 0, 1, 9, 0, 9, 2, 1);
    }

    /** "false when there is no such path or it was absent" */
    private static void withdrawArguments(Check c) {
        FrontCache x = new FrontCache(12);
        for (int path = 0; path < 8; path++) {
            c.due("withdraw(" + path + ")", x.withdraw(path), false);
        }
        for (int path = 0; path < 8; path++) {
            x.publish(path, 1, false);
        }
        for (int path : NO_PATHS) {
            c.due("withdraw(" + path + ")", x.withdraw(path), false);
        }
        for (int path : new int[] {0, 7}) {
            c.due("version(" + path + ")", x.version(path), path + 1);
            c.due("withdraw(" + path + ")", x.withdraw(path), true);
            c.due("version(" + path + ")", x.version(path), 0);
            c.due("withdraw(" + path + ") again", x.withdraw(path), false);
        }
        c.due("version(1)", x.version(1), 2);
        x.delete(3);
        Check.settle(x);
        c.due("withdraw(3) behind a DELETE", x.withdraw(3), false);
        x.put(3, 1);
        Check.settle(x);
        c.due("withdraw(3) behind a PUT", x.withdraw(3), true);
    }

    /** "0 when it is absent or there is no such path" */
    private static void versionArguments(Check c) {
        FrontCache x = new FrontCache(12);
        for (int path = 0; path < 8; path++) {
            c.due("version(" + path + ")", x.version(path), 0);
            x.publish(path, 1, false);
        }
        for (int path = 0; path < 8; path++) {
            c.due("version(" + path + ")", x.version(path), path + 1);
        }
        for (int path : NO_PATHS) {
            c.due("version(" + path + ")", x.version(path), 0);
        }
    }

    /** "false also when there is no such origin" */
    private static void powerArguments(Check c) {
        FrontCache x = new FrontCache(12);
        for (int origin : new int[] {-1, 3, -3, 4, 256, LEAST, GREATEST}) {
            c.due("power(" + origin + ", false)", x.power(origin, false), false);
            c.due("power(" + origin + ", true)", x.power(origin, true), false);
        }
        for (int origin = 0; origin < 3; origin++) {
            c.due("power(" + origin + ", true)", x.power(origin, true), false);
        }
    }

    /** "whether that changed something" */
    private static void powerChanges(Check c) {
        for (int origin = 0; origin < 3; origin++) {
            FrontCache x = new FrontCache(12);
            c.due("power(" + origin + ", false)", x.power(origin, false), true);
            c.due("power(" + origin + ", false) again", x.power(origin, false), false);
            for (int path = 0; path < 8; path++) {
                x.delete(path);
            }
            int[] waiting = {x.waiting(0), x.waiting(1), x.waiting(2)};
            Check.settle(x);
            for (int other = 0; other < 3; other++) {
                c.due("waiting(" + other + ")", x.waiting(other), other == origin ? waiting[other] : 0);
            }
            c.due("power(" + origin + ", true)", x.power(origin, true), true);
            c.due("power(" + origin + ", true) again", x.power(origin, true), false);
            Check.ticks(x, 4);
            Check.settle(x);
            c.due("waiting(" + origin + ")", x.waiting(origin), 0);
        }
    }

    /** "AN ORIGIN that is STOPPED takes no message in; they are lost to it." */
    private static void stoppedTakesNothingIn(Check c) {
        FrontCache x = new FrontCache(12);
        x.publish(3, 1, false);
        x.power(0, false);
        x.put(1, 1);
        c.due("deliver(0)", x.deliver(0), true);
        c.due("flights()", x.flights(), 0);
        c.due("version(1)", x.version(1), 0);
        c.due("waiting(0)", x.waiting(0), 1);
        c.answer(x, 1, 0, 0, 0, 0);
        x.power(0, true);
        c.due("flights()", x.flights(), 0);
        Check.ticks(x, 4);
        x.deliver(0);
        c.due("version(1)", x.version(1), 2);
        c.flight(x, 0, 4, 1, 204, 0);
    }

    /** "Otherwise it answers a probe.": a stopped one does not. */
    private static void stoppedAnswersNoProbe(Check c) {
        FrontCache x = new FrontCache(12);
        Check.bringDown(x, 1);
        x.power(0, false);
        Check.ticks(x, 10);
        x.copy(0);
        c.due("deliver(0)", x.deliver(0), true);
        c.due("flights()", x.flights(), 1);
        c.due("waiting(0)", x.waiting(0), -1);
        x.power(0, true);
        c.due("waiting(0) when it runs", x.waiting(0), -1);
        x.deliver(0);
        c.flight(x, 0, 4, 0, 0, 0);
        x.power(0, false);
        x.deliver(0);
        c.due("waiting(0)", x.waiting(0), 0);
    }

    /** What an origin has sent before it was stopped is under way all the same. */
    private static void stoppedAndAnswersUnderWay(Check c) {
        FrontCache x = new FrontCache(12);
        x.put(1, 1);
        x.put(1, 2);
        x.deliver(0);
        x.power(0, false);
        x.deliver(0);
        c.answer(x, 1, 204, 0, 0, 0);
        c.flight(x, 0, 0, 2, 2, 0);
        x.deliver(0);
        c.due("flights()", x.flights(), 0);
        c.due("version(1)", x.version(1), 1);
    }

    /** "or starts it again (it has what it had)": its resources, its last number and its last answer. */
    private static void startedHasWhatItHad(Check c) {
        FrontCache x = new FrontCache(12);
        Check.publish(x, "max-age=9", 1, 3, true);
        x.put(3, 1);
        x.copy(0);
        x.copy(0);
        x.deliver(0);
        x.power(0, false);
        c.due("version(1)", x.version(1), 1);
        x.deliver(0);
        x.power(0, true);
        x.deliver(0);
        c.due("flights()", x.flights(), 2);
        c.flight(x, 1, 4, 1, 204, 0);
        c.due("version(3)", x.version(3), 2);
        Check.settle(x);
        c.answer(x, 1, 204, 0, 0, 0);
        Check.load(x, 1, 2);
        c.entry(x, 0, 1, 6, 0, 9, 3, 2);
    }

    /** "A request with the number that it took in last is answered with the same message as before" */
    private static void theSameNumber(Check c) {
        FrontCache x = new FrontCache(12);
        Check.publish(x, "max-age=9", 1, 1, false);
        x.get(1, 0, 0);
        Check.ticks(x, 8);
        x.deliver(0);
        Check.publish(x, "max-age=7", 1, 2, true);
        x.deliver(0);
        x.withdraw(1);
        x.deliver(0);
        c.due("flights()", x.flights(), 3);
        for (int k = 0; k < 3; k++) {
            c.flight(x, k, 4, 1, 200, 4);
        }
        x.deliver(2);
        c.answer(x, 1, 200, 4, 0, 2);
        c.entry(x, 0, 1, 4, 0, 9, 1, -2);
    }

    /** "answered with the same message as before": its date is that of the first time. */
    private static void theSameNumberHasTheSameDate(Check c) {
        FrontCache x = new FrontCache(12);
        Check.publish(x, "max-age=9", 1, 1, false);
        x.get(1, 0, 0);
        x.copy(0);
        x.deliver(0);
        x.lose(1);
        Check.ticks(x, 3);
        x.deliver(0);
        c.flight(x, 0, 4, 1, 200, 4);
        x.deliver(0);
        c.answer(x, 1, 200, 4, 3, 2);
        c.due("entry(0, 2)", x.entry(0, 2), 3);
    }

    /** The same number does not change the resource twice. */
    private static void theSameNumberOfChanges(Check c) {
        FrontCache x = new FrontCache(12);
        x.put(1, 1);
        x.copy(0);
        x.deliver(0);
        x.deliver(0);
        c.due("version(1)", x.version(1), 1);
        c.due("flights()", x.flights(), 2);
        Check.settle(x);
        x.delete(1);
        x.copy(0);
        x.deliver(0);
        x.publish(1, 1, false);
        x.deliver(0);
        c.due("version(1)", x.version(1), 2);
        c.flight(x, 0, 4, 2, 204, 0);
        c.flight(x, 1, 4, 2, 204, 0);
    }

    /** "one with a smaller number is nothing" */
    private static void aSmallerNumber(Check c) {
        FrontCache x = new FrontCache(12);
        x.put(1, 1);
        x.copy(0);
        x.copy(0);
        x.deliver(0);
        x.deliver(2);
        x.delete(1);
        x.deliver(2);
        c.due("version(1)", x.version(1), 0);
        c.flight(x, 2, 4, 2, 204, 0);
        c.due("deliver(0)", x.deliver(0), true);
        c.due("flights()", x.flights(), 2);
        c.due("version(1)", x.version(1), 0);
        x.deliver(1);
        x.deliver(0);
        c.due("flights()", x.flights(), 0);
        c.due("version(1)", x.version(1), 0);
        c.answer(x, 2, 204, 0, 0, 0);
    }

    /** "One with a greater number is taken in": also when those between never came. */
    private static void aGreaterNumber(Check c) {
        FrontCache x = new FrontCache(12);
        x.put(1, 1);
        x.delete(1);
        x.copy(0);
        x.lose(0);
        Check.ticks(x, 12);
        c.answer(x, 1, 504, 0, 0, 0);
        c.flight(x, 3, 0, 2, 3, 0);
        x.deliver(3);
        c.flight(x, 3, 4, 2, 404, 0);
        x.deliver(0);
        c.due("flights()", x.flights(), 3);
        c.due("version(1) behind the smaller one", x.version(1), 0);
        x.deliver(2);
        c.answer(x, 2, 404, 0, 0, 0);
    }

    /** "to a GET: 404 when the resource is absent": also with an entry. */
    private static void getOfAnAbsentOne(Check c) {
        FrontCache x = new FrontCache(12);
        x.get(1, 0, 0);
        x.deliver(0);
        c.flight(x, 0, 4, 1, 404, 0);
        x.deliver(0);
        Check.keep(x, 1, 1);
        x.withdraw(1);
        Check.get(x, "no-cache", 1, 0, 0);
        c.flight(x, 0, 0, 3, 1, 4);
        x.deliver(0);
        c.flight(x, 0, 4, 3, 404, 0);
    }

    /** "otherwise 304 if an entry is with it, and the tag of that is the resource's tag for the variant" */
    private static void getWithAnEntry(Check c) {
        FrontCache x = new FrontCache(12);
        Check.publish(x, "max-age=1", 1, 1, true);
        Check.publish(x, "max-age=1", 3, 1, false);
        Check.load(x, 1, 3);
        Check.load(x, 3, 0);
        x.tick();
        x.get(1, 3, 0);
        x.deliver(0);
        c.flight(x, 0, 4, 3, 304, 7);
        x.deliver(0);
        x.get(3, 2, 0);
        x.deliver(0);
        c.flight(x, 0, 4, 4, 304, 8);
        x.deliver(0);
        x.get(1, 2, 0);
        c.flight(x, 0, 0, 5, 1, 0);
        x.deliver(0);
        c.flight(x, 0, 4, 5, 200, 6);
    }

    /** "otherwise 200 with that tag": when the resource was changed beside or through the front. */
    private static void getWithAnEntryOfAnotherTag(Check c) {
        FrontCache x = new FrontCache(12);
        Check.keep(x, 1, 1);
        Check.publish(x, "max-age=8", 1, 2, true);
        Check.get(x, "no-cache", 1, 0, 0);
        c.flight(x, 0, 0, 2, 1, 4);
        x.deliver(0);
        c.flight(x, 0, 4, 2, 200, 8);
        x.deliver(0);
        c.answer(x, 2, 200, 8, 0, 2);
        c.entry(x, 0, 1, 8, 0, 8, 2, 0);
        x.withdraw(1);
        Check.publish(x, "max-age=8", 1, 2, true);
        Check.get(x, "no-cache", 1, 0, 0);
        x.deliver(0);
        c.flight(x, 0, 4, 3, 200, 12);
    }

    /** "(an absent one gets an empty control and does not vary)": never there, withdrawn or deleted. */
    private static void putOfAnAbsentOne(Check c) {
        for (int how = 0; how < 3; how++) {
            FrontCache x = new FrontCache(12);
            if (how > 0) {
                Check.publish(x, "max-age=9", 1, 1, true);
            }
            if (how == 1) {
                x.withdraw(1);
            } else {
                x.delete(1);
                Check.settle(x);
            }
            x.put(1, 4);
            Check.settle(x);
            int version = how > 0 ? 2 : 1;
            c.due("version(1)", x.version(1), version);
            int request = Check.load(x, 1, 3);
            c.answer(x, request, 200, 4 * version, 0, 2);
            c.due("entries()", x.entries(), 0);
        }
    }

    /** "the resource gets a new version and the size; it keeps control and whether it varies" */
    private static void putKeeps(Check c) {
        FrontCache x = new FrontCache(12);
        Check.publish(x, "max-age=9", 1, 1, true);
        Check.publish(x, "max-age=8", 3, 1, false);
        x.put(1, 9);
        x.put(3, 2);
        Check.settle(x);
        Check.load(x, 1, 3);
        c.entry(x, 0, 1, 15, 0, 9, 9, 3);
        Check.load(x, 3, 3);
        c.entry(x, 0, 3, 16, 0, 8, 2, -2);
    }

    /** "To a DELETE: 404 when it is absent, otherwise 204, and it becomes absent." */
    private static void deleteOfAnAbsentOne(Check c) {
        FrontCache x = new FrontCache(12);
        x.delete(1);
        x.deliver(0);
        c.flight(x, 0, 4, 1, 404, 0);
        x.deliver(0);
        c.answer(x, 1, 404, 0, 0, 0);
        x.publish(1, 1, false);
        x.delete(1);
        c.due("version(1)", x.version(1), 1);
        x.deliver(0);
        c.flight(x, 0, 4, 2, 204, 0);
        c.due("version(1)", x.version(1), 0);
        x.deliver(0);
        c.answer(x, 2, 204, 0, 0, 0);
        x.delete(1);
        Check.settle(x);
        c.answer(x, 3, 404, 0, 0, 0);
    }
}
