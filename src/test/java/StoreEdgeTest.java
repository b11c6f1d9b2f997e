/** The edges of promises 1, 16 and 17, and those that "Terms" names for the store; each test bears its sentence. */
public final class StoreEdgeTest {
    private static final int LEAST = Integer.MIN_VALUE;
    private static final int GREATEST = Integer.MAX_VALUE;

    public static void main(String[] args) {
        Check c = new Check("StoreEdgeTest");
        capacities(c);
        sizeAndCapacity(c);
        roomForASize(c);
        whatIsReplacedLeavesRoomFirst(c);
        matching(c);
        takenAwayByANewEntry(c);
        fresh(c);
        ages(c);
        theLatestUsed(c);
        notUsed(c);
        storedOrNot(c);
        confirmedAndStillThere(c);
        confirmedButGone(c);
        confirmedAndReplaced(c);
        confirmedOnlyWhatWasThere(c);
        confirmedTwice(c);
        notFound(c);
        changed(c);
        deleteOfWhatIsNotThere(c);
        howManyEntries(c);
        whichEntry(c);
        whatOfAnEntry(c);
        c.end();
    }

    /** "the CAPACITY, which is the constructor's if that is 1 .. 40, otherwise 12" */
    private static void capacities(Check c) {
        capacity(c, 1, 1);
        capacity(c, 2, 2);
        capacity(c, 9, 9);
        capacity(c, 12, 12);
        capacity(c, 13, 13);
        capacity(c, 39, 39);
        capacity(c, 40, 40);
        capacity(c, 0, 12);
        capacity(c, 41, 12);
        capacity(c, -1, 12);
        capacity(c, -12, 12);
        capacity(c, 256 + 1, 12);
        capacity(c, LEAST, 12);
        capacity(c, GREATEST, 12);
    }

    /** Stores entries of size 9 or what is left; they fill the capacity due, and one more of size 1 is too much. */
    private static void capacity(Check c, int given, int due) {
        FrontCache x = new FrontCache(given);
        int stored = 0;
        for (int left = due; left > 0; left -= 9) {
            Check.keep(x, stored, Math.min(left, 9));
            stored++;
        }
        c.due("entries() that fill capacity " + given, x.entries(), stored);
        Check.keep(x, 7, 1);
        c.due("entries() in capacity " + given + " with one more", x.entries(), stored);
        c.due("the latest in capacity " + given, x.entry(0, 0), 7);
    }

    /** "and its size is not greater than the capacity" */
    private static void sizeAndCapacity(Check c) {
        for (int capacity = 1; capacity <= 8; capacity++) {
            FrontCache x = new FrontCache(capacity);
            Check.keep(x, 1, 1);
            Check.keep(x, 3, capacity + 1);
            c.answer(x, 2, 200, 8, 0, 2);
            c.entryTags(x, 4);
            Check.keep(x, 3, capacity);
            c.answer(x, 3, 200, 12, 0, 2);
            c.entryTags(x, 12);
        }
        FrontCache x = new FrontCache(9);
        Check.keep(x, 1, 9);
        c.entryTags(x, 4);
        FrontCache y = new FrontCache(5);
        Check.keep(y, 1, 5);
        Check.publish(y, "max-age=99", 1, 6, false);
        Check.fetch(y, 1, 0);
        c.answer(y, 2, 200, 8, 0, 2);
        c.entryTags(y, 4);
    }

    /** "then, while there is no room for its size, the one used longest ago" */
    private static void roomForASize(Check c) {
        FrontCache x = new FrontCache(10);
        Check.keep(x, 1, 2);
        Check.keep(x, 2, 3);
        Check.keep(x, 3, 4);
        Check.keep(x, 4, 1);
        c.entryTags(x, 16, 12, 8, 4);
        Check.keep(x, 5, 1);
        c.entryTags(x, 20, 16, 12, 8);
        Check.keep(x, 6, 1);
        c.entryTags(x, 24, 20, 16, 12, 8);
        Check.keep(x, 7, 4);
        c.entryTags(x, 28, 24, 20, 16);
        Check.keep(x, 0, 9);
        c.entryTags(x, 32);
        Check.keep(x, 1, 1);
        c.entryTags(x, 36, 32);
        Check.keep(x, 2, 2);
        c.entryTags(x, 40, 36);
    }

    /** "those that match .. are taken away ..; then, while there is no room": what goes first makes room. */
    private static void whatIsReplacedLeavesRoomFirst(Check c) {
        FrontCache x = new FrontCache(10);
        Check.keep(x, 1, 4);
        Check.keep(x, 2, 6);
        Check.publish(x, "max-age=99", 2, 6, false);
        Check.fetch(x, 2, 0);
        c.entryTags(x, 12, 4);
        Check.publish(x, "max-age=99", 2, 7, false);
        Check.fetch(x, 2, 0);
        c.entryTags(x, 16);
        FrontCache y = new FrontCache(10);
        Check.keep(y, 3, 4);
        Check.publish(y, "max-age=99", 1, 2, true);
        Check.load(y, 1, 0);
        Check.load(y, 1, 1);
        Check.load(y, 1, 2);
        c.entryTags(y, 10, 9, 8, 4);
        Check.publish(y, "max-age=99", 1, 6, false);
        Check.fetch(y, 1, 3);
        c.entryTags(y, 12, 4);
    }

    /** "the path is its own, and it does not vary or the variant is its own" */
    private static void matching(Check c) {
        FrontCache x = new FrontCache(12);
        Check.keep(x, 3, 1);
        for (int variant = 0; variant < 4; variant++) {
            int request = x.get(3, variant, 0);
            c.answer(x, request, 200, 4, 0, 1);
        }
        x.get(1, 0, 0);
        x.get(2, 0, 0);
        c.due("flights() for other paths", x.flights(), 2);
        for (int own = 0; own < 4; own++) {
            FrontCache y = new FrontCache(12);
            Check.publish(y, "max-age=9", 1, 1, true);
            Check.load(y, 1, own);
            c.due("entry(0, 5)", y.entry(0, 5), own);
            for (int variant = 0; variant < 4; variant++) {
                int request = Check.get(y, "only-if-cached", 1, variant, 0);
                c.due("variant " + variant + " of " + own, y.answer(request, 0), variant == own ? 200 : 504);
            }
        }
    }

    /** "those that match its path and variant are taken away, and, if it does not vary, all of its path" */
    private static void takenAwayByANewEntry(Check c) {
        FrontCache x = new FrontCache(40);
        Check.keep(x, 3, 1);
        Check.publish(x, "max-age=99", 1, 1, true);
        for (int variant = 0; variant < 4; variant++) {
            Check.load(x, 1, variant);
        }
        c.entryTags(x, 11, 10, 9, 8, 4);
        Check.publish(x, "max-age=99", 1, 1, true);
        Check.fetch(x, 1, 2);
        c.entryTags(x, 14, 11, 9, 8, 4);
        Check.publish(x, "max-age=99", 1, 1, false);
        Check.fetch(x, 1, 1);
        c.entryTags(x, 16, 4);
        Check.publish(x, "max-age=99", 1, 1, true);
        Check.fetch(x, 1, 3);
        c.entryTags(x, 23, 4);
        Check.load(x, 1, 0);
        c.entryTags(x, 20, 23, 4);
    }

    /** "It is FRESH when it has a lifetime and the age is less than that." */
    private static void fresh(Check c) {
        for (int lifetime = 0; lifetime <= 3; lifetime++) {
            FrontCache x = new FrontCache(12);
            Check.publish(x, "max-age=" + lifetime, 1, 1, false);
            Check.load(x, 1, 0);
            for (int age = 0; age <= 4; age++) {
                int request = Check.get(x, "only-if-cached", 1, 0, 0);
                c.due("lifetime " + lifetime + ", age " + age, x.answer(request, 0), age < lifetime ? 200 : 504);
                x.tick();
            }
            c.entryTags(x, 4);
        }
        FrontCache y = new FrontCache(12);
        Check.publish(y, "max-age=99999", 1, 1, false);
        Check.load(y, 1, 0);
        Check.ticks(y, 450);
        y.get(1, 0, 0);
        c.answer(y, 2, 200, 4, 450, 1);
    }

    /** "Its AGE is the time less its date": that of the answer, not that of its coming. */
    private static void ages(Check c) {
        FrontCache x = new FrontCache(12);
        Check.publish(x, "max-age=3", 1, 1, false);
        Check.ticks(x, 2);
        x.get(1, 0, 0);
        x.tick();
        x.deliver(0);
        Check.ticks(x, 3);
        x.deliver(0);
        c.answer(x, 1, 200, 4, 3, 2);
        c.entry(x, 0, 1, 4, 3, 3, 1, -2);
        x.get(1, 0, 0);
        c.answer(x, 2, 0, 0, 0, 0);
        FrontCache y = new FrontCache(12);
        Check.publish(y, "max-age=3", 1, 1, false);
        y.get(1, 0, 0);
        y.deliver(0);
        Check.ticks(y, 2);
        y.deliver(0);
        y.get(1, 0, 0);
        c.answer(y, 2, 200, 4, 2, 1);
    }

    /** Entries with tags 4, 8, 12 at paths 1, 2, 3, in this order of use. */
    private static FrontCache three() {
        FrontCache x = new FrontCache(12);
        for (int path = 1; path <= 3; path++) {
            Check.keep(x, path, 1);
        }
        return x;
    }

    /** "when an entry is stored, answered from or confirmed, it becomes the latest" */
    private static void theLatestUsed(Check c) {
        FrontCache x = three();
        c.entryTags(x, 12, 8, 4);
        x.get(3, 0, 0);
        c.entryTags(x, 12, 8, 4);
        x.get(2, 0, 0);
        c.entryTags(x, 8, 12, 4);
        x.get(1, 0, 4);
        c.answer(x, 6, 304, 4, 0, 1);
        c.entryTags(x, 4, 8, 12);
        Check.fetch(x, 3, 0);
        c.answer(x, 7, 200, 12, 0, 3);
        c.entryTags(x, 12, 4, 8);
        Check.publish(x, "max-age=99", 2, 1, false);
        Check.fetch(x, 2, 0);
        c.entryTags(x, 16, 12, 4);
    }

    /** What is only looked at, waited for or refused is not used. */
    private static void notUsed(Check c) {
        FrontCache x = three();
        x.entry(2, 0);
        c.entryTags(x, 12, 8, 4);
        Check.get(x, "only-if-cached,no-cache", 1, 0, 0);
        c.entryTags(x, 12, 8, 4);
        Check.get(x, "no-cache", 1, 0, 0);
        x.deliver(0);
        c.entryTags(x, 12, 8, 4);
        x.get(1, 4, 0);
        x.get(1, 0, -1);
        c.entryTags(x, 12, 8, 4);
        Check.publish(x, "", 2, 1, false);
        Check.fetch(x, 2, 0);
        c.entryTags(x, 4, 12, 8);
    }

    /** "It is stored .. when its control has a lifetime and neither no-store nor private, the request's .. no no-store" */
    private static void storedOrNot(Check c) {
        storedOrNot(c, "max-age=0", "", 1);
        storedOrNot(c, "s-maxage", "", 1);
        storedOrNot(c, "no-cache,max-age=1", "", 1);
        storedOrNot(c, "", "", 0);
        storedOrNot(c, "no-cache", "", 0);
        storedOrNot(c, "max-age=9,no-store", "", 0);
        storedOrNot(c, "private,max-age=9", "", 0);
        storedOrNot(c, "no-store,private,max-age=9", "", 0);
        storedOrNot(c, "max-age=9", "no-store", 0);
        storedOrNot(c, "max-age=9", "no-store=00000", 0);
        storedOrNot(c, "max-age=9", "no-store=", 1);
        storedOrNot(c, "max-age=9", "private", 1);
        storedOrNot(c, "max-age=9", "max-age=0", 1);
        storedOrNot(c, "max-age=9", "no-cache", 1);
    }

    private static void storedOrNot(Check c, String control, String wanted, int due) {
        FrontCache x = new FrontCache(12);
        Check.publish(x, control, 1, 1, false);
        Check.get(x, wanted, 1, 0, 0);
        Check.settle(x);
        c.answer(x, 1, 200, 4, 0, 2);
        c.due("entries() of '" + control + "' for '" + wanted + "'", x.entries(), due);
    }

    /** "the entry that was to be confirmed gets the .. date of the answer: 200 with the entry's tag and its age" */
    private static void confirmedAndStillThere(Check c) {
        FrontCache x = three();
        Check.ticks(x, 5);
        Check.get(x, "no-cache,no-store", 1, 3, 0);
        x.deliver(0);
        c.flight(x, 0, 4, 3, 304, 4);
        Check.ticks(x, 2);
        c.entry(x, 2, 1, 4, 7, 99, 1, -2);
        x.deliver(0);
        c.answer(x, 4, 200, 4, 2, 3);
        c.entryTags(x, 4, 12, 8);
        c.entry(x, 0, 1, 4, 2, 99, 1, -2);
        FrontCache y = new FrontCache(12);
        Check.publish(y, "max-age=2", 1, 1, false);
        Check.load(y, 1, 0);
        Check.ticks(y, 2);
        Check.load(y, 1, 0);
        c.answer(y, 2, 200, 4, 0, 3);
        Check.ticks(y, 1);
        y.get(1, 0, 0);
        c.answer(y, 3, 200, 4, 1, 1);
        y.tick();
        y.get(1, 0, 0);
        c.answer(y, 4, 0, 0, 0, 0);
    }

    /** "If that very entry is still in the store": one that was taken away is answered from, but not put back. */
    private static void confirmedButGone(Check c) {
        FrontCache x = new FrontCache(4);
        Check.keep(x, 1, 3);
        x.tick();
        Check.get(x, "no-cache", 1, 0, 4);
        x.deliver(0);
        Check.publish(x, "max-age=9", 2, 2, false);
        x.get(2, 0, 0);
        x.deliver(1);
        x.deliver(1);
        c.entryTags(x, 8);
        x.tick();
        x.deliver(0);
        c.answer(x, 2, 304, 4, 1, 3);
        c.entryTags(x, 8);
        c.entry(x, 0, 2, 8, 1, 9, 2, -2);
        FrontCache y = new FrontCache(1);
        Check.keep(y, 1, 1);
        Check.publish(y, "max-age=9", 2, 1, false);
        Check.get(y, "no-cache", 1, 0, 0);
        y.get(2, 0, 0);
        y.deliver(1);
        y.deliver(1);
        c.entryTags(y, 8);
        Check.settle(y);
        c.answer(y, 2, 200, 4, 0, 3);
        c.entryTags(y, 8);
    }

    /** "that very entry": one with the same tag that was stored in between is another one. */
    private static void confirmedAndReplaced(Check c) {
        FrontCache x = new FrontCache(12);
        Check.keep(x, 2, 1);
        Check.publish(x, "max-age=99", 1, 1, false);
        x.get(1, 0, 0);
        x.get(1, 0, 0);
        x.deliver(0);
        x.deliver(0);
        c.entryTags(x, 8, 4);
        Check.get(x, "no-cache", 1, 0, 0);
        x.tick();
        x.deliver(0);
        x.deliver(0);
        c.answer(x, 3, 200, 8, 0, 2);
        c.flight(x, 0, 0, 3, 1, 8);
        x.get(2, 0, 0);
        c.entryTags(x, 4, 8);
        x.tick();
        x.deliver(0);
        c.flight(x, 0, 4, 3, 304, 8);
        x.deliver(0);
        c.answer(x, 4, 200, 8, 0, 3);
        c.entryTags(x, 4, 8);
        c.entry(x, 1, 1, 8, 1, 99, 1, -2);
    }

    /** An entry is with a request only if it was there when the request was made. */
    private static void confirmedOnlyWhatWasThere(Check c) {
        FrontCache x = new FrontCache(4);
        Check.keep(x, 1, 3);
        Check.publish(x, "max-age=99", 2, 2, false);
        Check.get(x, "no-cache", 1, 0, 0);
        x.get(2, 0, 0);
        x.deliver(1);
        x.deliver(1);
        c.entryTags(x, 8);
        x.get(1, 0, 0);
        Check.get(x, "no-cache", 1, 0, 0);
        c.due("waiting(0)", x.waiting(0), 3);
        x.deliver(0);
        x.deliver(0);
        c.answer(x, 2, 200, 4, 0, 3);
        c.entryTags(x, 8);
        c.flight(x, 0, 0, 3, 1, 0);
        x.deliver(0);
        x.deliver(0);
        c.answer(x, 4, 200, 4, 0, 2);
        c.entryTags(x, 4);
        c.flight(x, 0, 0, 4, 1, 0);
    }

    /** An entry that two requests have to confirm, taken away by a change between the two. */
    private static void confirmedTwice(Check c) {
        FrontCache x = three();
        x.tick();
        Check.get(x, "no-cache", 1, 0, 0);
        Check.get(x, "no-cache", 1, 0, 0);
        x.tick();
        x.deliver(0);
        x.deliver(0);
        c.answer(x, 4, 200, 4, 0, 3);
        c.flight(x, 0, 0, 4, 1, 4);
        x.tick();
        Check.settle(x);
        c.answer(x, 5, 200, 4, 0, 3);
        c.entry(x, 0, 1, 4, 0, 99, 1, -2);
        Check.get(x, "no-cache", 1, 0, 0);
        x.put(1, 1);
        Check.get(x, "no-cache", 1, 0, 0);
        Check.settle(x);
        c.answer(x, 6, 200, 4, 0, 3);
        c.answer(x, 7, 204, 0, 0, 0);
        c.answer(x, 8, 200, 16, 0, 2);
        c.entryTags(x, 16, 12, 8);
    }

    /** "404 to a GET: 404; the entries that match are taken away." */
    private static void notFound(Check c) {
        FrontCache x = three();
        Check.publish(x, "max-age=99", 5, 1, true);
        Check.load(x, 5, 0);
        Check.load(x, 5, 3);
        x.withdraw(5);
        Check.fetch(x, 5, 2);
        c.answer(x, 6, 404, 0, 0, 0);
        c.entryTags(x, 19, 16, 12, 8, 4);
        Check.fetch(x, 5, 3);
        c.answer(x, 7, 404, 0, 0, 0);
        c.entryTags(x, 16, 12, 8, 4);
        x.withdraw(3);
        Check.fetch(x, 3, 2);
        c.entryTags(x, 16, 8, 4);
        Check.fetch(x, 0, 0);
        c.entryTags(x, 16, 8, 4);
        x.withdraw(1);
        Check.fetch(x, 1, 0);
        c.entryTags(x, 16, 8);
        FrontCache y = new FrontCache(12);
        Check.keep(y, 1, 1);
        y.withdraw(1);
        Check.fetch(y, 1, 0);
        c.entryTags(y);
    }

    /** "204, and 404 to a DELETE: the same; with 204 all entries of the path are taken away." */
    private static void changed(Check c) {
        FrontCache x = three();
        Check.publish(x, "max-age=99", 5, 1, true);
        Check.load(x, 5, 0);
        Check.load(x, 5, 3);
        x.withdraw(5);
        x.delete(5);
        Check.settle(x);
        c.answer(x, 6, 404, 0, 0, 0);
        c.entryTags(x, 19, 16, 12, 8, 4);
        x.put(5, 1);
        x.deliver(0);
        c.entryTags(x, 19, 16, 12, 8, 4);
        x.deliver(0);
        c.answer(x, 7, 204, 0, 0, 0);
        c.entryTags(x, 12, 8, 4);
        x.delete(2);
        Check.settle(x);
        c.answer(x, 8, 204, 0, 0, 0);
        c.entryTags(x, 12, 4);
    }

    /** "404 to a DELETE: the same": the same status, and nothing was changed, so the entry is answered from. */
    private static void deleteOfWhatIsNotThere(Check c) {
        FrontCache x = three();
        x.withdraw(1);
        int request = x.delete(1);
        x.deliver(0);
        c.flight(x, 0, 4, 3, 404, 0);
        x.deliver(0);
        c.answer(x, request, 404, 0, 0, 0);
        c.entryTags(x, 12, 8, 4);
        c.answer(x, x.get(1, 0, 0), 200, 4, 0, 1);
        c.entryTags(x, 4, 12, 8);
        Check.fetch(x, 1, 0);
        c.entryTags(x, 12, 8);
    }

    /** "How many entries are stored": from none to as many as sizes of 1 allow. */
    private static void howManyEntries(Check c) {
        FrontCache none = new FrontCache(40);
        c.due("entries() of none", none.entries(), 0);
        for (int capacity : new int[] {1, 31, 32, 40}) {
            FrontCache x = new FrontCache(capacity);
            for (int path = 0; path < 8; path++) {
                Check.publish(x, "max-age=9", path, 1, true);
                for (int variant = 0; variant < 4; variant++) {
                    Check.load(x, path, variant);
                    c.due("entries()", x.entries(), Math.min(capacity, 4 * path + variant + 1));
                }
            }
            c.due("entry(-1, 0) of a full store", x.entry(-1, 0), -1);
            c.due("entry(last, 0) of a full store", x.entry(Math.min(capacity, 32) - 1, 0), capacity == 1 ? 7 : 0);
            c.due("entry(behind, 0) of a full store", x.entry(Math.min(capacity, 32), 0), -1);
        }
    }

    /** "the entry that was used k-th latest (from 0) .. -1 when there is none" */
    private static void whichEntry(Check c) {
        FrontCache x = new FrontCache(12);
        c.due("entry(0, 0) of none", x.entry(0, 0), -1);
        c.due("entry(-1, 0) of none", x.entry(-1, 0), -1);
        x = three();
        int[] paths = {3, 2, 1};
        for (int k = 0; k < 3; k++) {
            c.due("entry(" + k + ", 0)", x.entry(k, 0), paths[k]);
        }
        for (int k : new int[] {3, 4, 12, 16, -1, -3, LEAST, GREATEST}) {
            for (int w = 0; w < 6; w++) {
                c.due("entry(" + k + ", " + w + ")", x.entry(k, w), -1);
            }
        }
    }

    /** "or w is not 0 .. 5"; "the variant, or -2 if it does not vary" */
    private static void whatOfAnEntry(Check c) {
        FrontCache x = new FrontCache(12);
        Check.publish(x, "max-age=99999", 0, 9, false);
        Check.load(x, 0, 3);
        Check.publish(x, "s-maxage,max-age=7", 7, 1, true);
        Check.load(x, 7, 0);
        x.tick();
        c.entry(x, 0, 7, 8, 1, 0, 1, 0);
        c.entry(x, 1, 0, 4, 1, 99999, 9, -2);
        for (int w : new int[] {-1, 6, -2, 7, LEAST, GREATEST}) {
            c.due("entry(0, " + w + ")", x.entry(0, w), -1);
            c.due("entry(1, " + w + ")", x.entry(1, w), -1);
        }
    }
}
