/** The edges of promises 5, 6, 7, 13, 18, and those that "Terms" names for requests; each test bears its sentence. */
public final class RequestEdgeTest {
    private static final int LEAST = Integer.MIN_VALUE;
    private static final int GREATEST = Integer.MAX_VALUE;
    private static final int[] NO_PATHS = {-1, 8, -8, 9, 256, LEAST, GREATEST};
    private static final int[] NO_SIZES = {0, 10, -1, 11, 257, LEAST, GREATEST};

    public static void main(String[] args) {
        Check c = new Check("RequestEdgeTest");
        owners(c);
        getArguments(c);
        putArguments(c);
        deleteArguments(c);
        requestNumbers(c);
        sixteenAnswers(c);
        whichAnswer(c);
        whatOfAnAnswer(c);
        noAnswerYet(c);
        lateAnswersOfOldRequests(c);
        knownTagsOfHits(c);
        knownTagsOfFetched(c);
        knownTagsOfConfirmed(c);
        knownTagsOfOtherAnswers(c);
        noCache(c);
        maxAgeOfTheRequest(c);
        minFreshOfTheRequest(c);
        allConditionsTogether(c);
        onlyIfCached(c);
        changesAreAlwaysPassedOn(c);
        c.end();
    }

    /** "the origin o with the greatest .. , of such the least"; "-1 when there is none" */
    private static void owners(Check c) {
        FrontCache x = new FrontCache(12);
        int[] owners = {2, 0, 1, 0, 1, 0, 2, 1};
        for (int path = 0; path < 8; path++) {
            c.due("owner(" + path + ")", x.owner(path), owners[path]);
        }
        for (int path : NO_PATHS) {
            c.due("owner(" + path + ")", x.owner(path), -1);
        }
        for (int path = 0; path < 8; path++) {
            FrontCache y = new FrontCache(12);
            y.delete(path);
            c.due("flight(0, 0) for path " + path, y.flight(0, 0), owners[path]);
            c.due("waiting at the owner of path " + path, y.waiting(owners[path]), 1);
        }
    }

    /** "-1 when there is no such path or variant, or tag is less than 0" */
    private static void getArguments(Check c) {
        FrontCache x = new FrontCache(12);
        for (int path : NO_PATHS) {
            c.due("get(" + path + ", 0, 0)", x.get(path, 0, 0), -1);
        }
        for (int variant : new int[] {-1, 4, -4, 5, 256, LEAST, GREATEST}) {
            c.due("get(0, " + variant + ", 0)", x.get(0, variant, 0), -1);
        }
        for (int tag : new int[] {-1, -4, LEAST}) {
            c.due("get(0, 0, " + tag + ")", x.get(0, 0, tag), -1);
        }
        c.due("flights()", x.flights(), 0);
        c.due("answer(1, 0)", x.answer(1, 0), -1);
        c.due("get(0, 0, 0)", x.get(0, 0, 0), 1);
        c.due("get(7, 3, 0)", x.get(7, 3, 0), 2);
        c.due("get(1, 0, greatest)", x.get(1, 0, GREATEST), 3);
        c.due("flights()", x.flights(), 3);
    }

    /** "-1 when there is no such path or size is not 1 .. 9" */
    private static void putArguments(Check c) {
        FrontCache x = new FrontCache(12);
        for (int path : NO_PATHS) {
            c.due("put(" + path + ", 1)", x.put(path, 1), -1);
        }
        for (int size : NO_SIZES) {
            c.due("put(1, " + size + ")", x.put(1, size), -1);
        }
        c.due("flights()", x.flights(), 0);
        c.due("waiting(0)", x.waiting(0), 0);
        c.due("put(0, 1)", x.put(0, 1), 1);
        c.due("put(7, 9)", x.put(7, 9), 2);
        c.due("flights()", x.flights(), 2);
        FrontCache y = new FrontCache(12);
        Check.publish(y, "max-age=9", 1, 5, false);
        y.put(1, 1);
        Check.settle(y);
        Check.load(y, 1, 0);
        c.entry(y, 0, 1, 8, 0, 9, 1, -2);
        y.put(1, 9);
        Check.settle(y);
        Check.load(y, 1, 0);
        c.entry(y, 0, 1, 12, 0, 9, 9, -2);
    }

    /** "-1 when there is no such path." */
    private static void deleteArguments(Check c) {
        FrontCache x = new FrontCache(12);
        for (int path : NO_PATHS) {
            c.due("delete(" + path + ")", x.delete(path), -1);
        }
        c.due("flights()", x.flights(), 0);
        c.due("delete(0)", x.delete(0), 1);
        c.due("delete(7)", x.delete(7), 2);
        c.due("flights()", x.flights(), 2);
    }

    /** "REQUESTS are numbered 1, 2, 3, ..": all kinds together, whatever becomes of them; refused ones have none. */
    private static void requestNumbers(Check c) {
        FrontCache x = new FrontCache(12);
        c.due("get", x.get(1, 0, 0), 1);
        c.due("put", x.put(2, 1), 2);
        c.due("refused put", x.put(2, 0), -1);
        c.due("delete", x.delete(0), 3);
        c.due("refused get", x.get(0, 4, 0), -1);
        c.due("get only from the store", Check.get(x, "only-if-cached", 1, 0, 0), 4);
        for (int request = 5; request <= 7; request++) {
            c.due("put", x.put(1, 1), request);
        }
        c.due("put when 4 wait", x.put(1, 1), 8);
        c.due("refused delete", x.delete(8), -1);
        c.due("delete when 4 wait", x.delete(3), 9);
        Check.settle(x);
        Check.bringDown(x, 6);
        c.due("get of a DOWN origin", x.get(6, 0, 0), 12);
    }

    /** "the ANSWERS to the latest 16 are kept" */
    private static void sixteenAnswers(Check c) {
        FrontCache x = new FrontCache(12);
        for (int last = 1; last <= 35; last++) {
            int kind = last % 3;
            c.due("request", kind == 0 ? x.delete(6) : kind == 1 ? x.put(6, 1) : x.get(6, 0, 0), last);
            Check.settle(x);
            if (last > 16) {
                c.due("answer(" + (last - 16) + ", 0) of " + last, x.answer(last - 16, 0), -1);
            }
            int oldest = Math.max(1, last - 15);
            c.due("answer(" + oldest + ", 0) of " + last, x.answer(oldest, 0), oldest % 3 == 2 ? 200 : 204);
            c.due("answer(" + oldest + ", 3) of " + last, x.answer(oldest, 3), oldest % 3 == 2 ? 2 : 0);
        }
    }

    /** "-1 when it is not kept": too old, or never made. */
    private static void whichAnswer(Check c) {
        FrontCache x = new FrontCache(12);
        c.due("answer(0, 0) of none", x.answer(0, 0), -1);
        c.due("answer(1, 0) of none", x.answer(1, 0), -1);
        for (int i = 0; i < 20; i++) {
            x.put(6, 1);
            Check.settle(x);
        }
        for (int request : new int[] {0, 1, 4, 21, 22, 36, -1, -12, LEAST, LEAST + 16, GREATEST}) {
            for (int w = 0; w < 4; w++) {
                c.due("answer(" + request + ", " + w + ")", x.answer(request, w), -1);
            }
        }
        c.answer(x, 5, 204, 0, 0, 0);
        c.answer(x, 20, 204, 0, 0, 0);
        x.put(6, 0);
        x.get(6, 0, -1);
        c.answer(x, 5, 204, 0, 0, 0);
    }

    /** "or w is not 0 .. 3" */
    private static void whatOfAnAnswer(Check c) {
        FrontCache x = new FrontCache(12);
        Check.publish(x, "max-age=9", 1, 1, true);
        x.get(1, 3, 0);
        x.deliver(0);
        x.tick();
        x.deliver(0);
        c.answer(x, 1, 200, 7, 1, 2);
        for (int w : new int[] {-1, 4, -4, 5, LEAST, GREATEST}) {
            c.due("answer(1, " + w + ")", x.answer(1, w), -1);
            c.due("answer(2, " + w + ")", x.answer(2, w), -1);
        }
    }

    /** "a status (0: it is not there yet)"; "tag and age are 0 where not said" */
    private static void noAnswerYet(Check c) {
        FrontCache x = new FrontCache(12);
        Check.keep(x, 1, 1);
        Check.ticks(x, 2);
        Check.get(x, "no-cache", 1, 0, 4);
        c.answer(x, 2, 0, 0, 0, 0);
        x.deliver(0);
        c.answer(x, 2, 0, 0, 0, 0);
        x.put(1, 1);
        c.answer(x, 3, 0, 0, 0, 0);
        x.deliver(0);
        c.answer(x, 2, 304, 4, 0, 3);
        c.answer(x, 3, 0, 0, 0, 0);
    }

    /** A request that is kept no more is answered all the same: what its answer brings is stored. */
    private static void lateAnswersOfOldRequests(Check c) {
        FrontCache x = new FrontCache(12);
        Check.publish(x, "max-age=9", 1, 1, false);
        x.get(1, 0, 0);
        for (int i = 0; i < 16; i++) {
            Check.get(x, "only-if-cached", 2, 0, 0);
        }
        c.due("answer(1, 0)", x.answer(1, 0), -1);
        Check.settle(x);
        c.due("answer(1, 0)", x.answer(1, 0), -1);
        c.entryTags(x, 4);
        c.answer(x, 17, 504, 0, 0, 0);
        c.answer(x, 2, 504, 0, 0, 0);
    }

    /** "Where an answer is said to be 200 it is 304 instead if T is its tag": from the store. */
    private static void knownTagsOfHits(Check c) {
        FrontCache x = new FrontCache(12);
        Check.publish(x, "max-age=9", 1, 1, true);
        Check.load(x, 1, 2);
        x.tick();
        int[] tags = {0, 1, 4, 5, 6, 7, 10, GREATEST};
        for (int tag : tags) {
            int request = x.get(1, 2, tag);
            c.answer(x, request, tag == 6 ? 304 : 200, 6, 1, 1);
        }
        FrontCache y = new FrontCache(12);
        Check.keep(y, 1, 1);
        for (int tag = 3; tag <= 8; tag++) {
            int request = y.get(1, 3, tag);
            c.answer(y, request, tag == 4 ? 304 : 200, 4, 0, 1);
        }
    }

    /** The same for what is fetched; it is stored no less. */
    private static void knownTagsOfFetched(Check c) {
        for (int tag = 6; tag <= 8; tag++) {
            FrontCache x = new FrontCache(12);
            Check.publish(x, "max-age=9", 1, 1, true);
            x.get(1, 3, tag);
            x.deliver(0);
            c.flight(x, 0, 4, 1, 200, 7);
            x.tick();
            x.deliver(0);
            c.answer(x, 1, tag == 7 ? 304 : 200, 7, 1, 2);
            c.entryTags(x, 7);
        }
    }

    /** The same for what is confirmed. */
    private static void knownTagsOfConfirmed(Check c) {
        for (int tag = 3; tag <= 5; tag++) {
            FrontCache x = new FrontCache(12);
            Check.keep(x, 1, 1);
            Check.get(x, "no-cache", 1, 3, tag);
            x.deliver(0);
            c.flight(x, 0, 4, 2, 304, 4);
            x.deliver(0);
            c.answer(x, 2, tag == 4 ? 304 : 200, 4, 0, 3);
            c.entryTags(x, 4);
        }
    }

    /** Only an answer that is said to be 200 becomes 304; the tag is not sent to the origin. */
    private static void knownTagsOfOtherAnswers(Check c) {
        FrontCache x = new FrontCache(12);
        x.get(1, 0, 4);
        c.flight(x, 0, 0, 1, 1, 0);
        Check.settle(x);
        c.answer(x, 1, 404, 0, 0, 0);
        Check.get(x, "only-if-cached", 1, 0, 4);
        c.answer(x, 2, 504, 0, 0, 0);
        x.publish(1, 1, false);
        x.get(1, 0, 4);
        x.deliver(0);
        c.flight(x, 0, 4, 2, 200, 4);
        Check.loseAll(x);
        Check.ticks(x, 12);
        c.answer(x, 3, 504, 0, 0, 0);
    }

    /** "neither its control nor the request's has no-cache" */
    private static void noCache(Check c) {
        FrontCache x = new FrontCache(12);
        Check.keep(x, 1, 1);
        Check.publish(x, "max-age=99,no-cache", 3, 1, false);
        Check.load(x, 3, 0);
        c.entryTags(x, 8, 4);
        x.get(1, 0, 0);
        c.answer(x, 3, 200, 4, 0, 1);
        Check.get(x, "no-cache", 1, 0, 0);
        c.flight(x, 0, 0, 3, 1, 4);
        x.get(3, 0, 0);
        c.due("waiting(0)", x.waiting(0), 2);
        Check.settle(x);
        c.answer(x, 5, 200, 8, 0, 3);
        Check.get(x, "only-if-cached", 3, 0, 0);
        c.answer(x, 6, 504, 0, 0, 0);
        Check.get(x, "no-cache,only-if-cached", 1, 0, 0);
        c.answer(x, 7, 504, 0, 0, 0);
    }

    /** An entry of path 1 with this lifetime and age; the status of a GET with this control and only-if-cached. */
    private static void status(Check c, int lifetime, int age, String control, int due) {
        FrontCache x = new FrontCache(12);
        Check.publish(x, "max-age=" + lifetime, 1, 1, false);
        Check.load(x, 1, 0);
        Check.ticks(x, age);
        Check.get(x, "only-if-cached," + control, 1, 0, 0);
        c.due("'" + control + "' for age " + age + " of " + lifetime, x.answer(2, 0), due);
    }

    /** "its age is not greater than the number of the request's max-age, if that is there" */
    private static void maxAgeOfTheRequest(Check c) {
        for (int age = 0; age < 5; age++) {
            status(c, 5, age, "max-age=" + age, 200);
            status(c, 5, age, "max-age=" + (age + 1), 200);
            if (age > 0) {
                status(c, 5, age, "max-age=" + (age - 1), 504);
            }
        }
        status(c, 5, 0, "max-age=0", 200);
        status(c, 5, 1, "max-age=0", 504);
        status(c, 5, 4, "max-age=99999", 200);
        status(c, 5, 5, "max-age=99999", 504);
        status(c, 0, 0, "max-age=0", 504);
    }

    /** "its age and the number of the request's min-fresh, .. are together not greater than its lifetime" */
    private static void minFreshOfTheRequest(Check c) {
        for (int age = 0; age < 5; age++) {
            status(c, 5, age, "min-fresh=" + (5 - age), 200);
            status(c, 5, age, "min-fresh=" + (6 - age), 504);
            status(c, 5, age, "min-fresh=0", 200);
        }
        status(c, 5, 5, "min-fresh=0", 504);
        status(c, 99999, 0, "min-fresh=99999", 200);
        status(c, 99999, 1, "min-fresh=99999", 504);
        status(c, 99998, 0, "min-fresh=99999", 504);
    }

    /** All of them must hold; one that does not is enough. */
    private static void allConditionsTogether(Check c) {
        status(c, 5, 3, "max-age=3,min-fresh=2", 200);
        status(c, 5, 3, "max-age=2,min-fresh=2", 504);
        status(c, 5, 3, "max-age=3,min-fresh=3", 504);
        status(c, 5, 3, "max-age=3,no-cache", 504);
        status(c, 3, 3, "max-age=3", 504);
    }

    /** "Otherwise, when the request's control has only-if-cached: 504." */
    private static void onlyIfCached(Check c) {
        FrontCache x = new FrontCache(12);
        Check.get(x, "only-if-cached", 1, 0, 0);
        c.answer(x, 1, 504, 0, 0, 0);
        Check.publish(x, "max-age=1", 1, 1, false);
        Check.load(x, 1, 0);
        Check.get(x, "only-if-cached", 1, 0, 0);
        c.answer(x, 3, 200, 4, 0, 1);
        x.tick();
        Check.get(x, "only-if-cached", 1, 0, 4);
        c.answer(x, 4, 504, 0, 0, 0);
        for (int i = 0; i < 4; i++) {
            x.put(3, 1);
        }
        Check.get(x, "only-if-cached", 1, 0, 0);
        c.answer(x, 9, 504, 0, 0, 0);
        c.due("waiting(0)", x.waiting(0), 4);
        c.due("flights()", x.flights(), 1);
        FrontCache y = new FrontCache(12);
        Check.bringDown(y, 1);
        Check.get(y, "only-if-cached", 1, 0, 0);
        c.answer(y, 3, 504, 0, 0, 0);
    }

    /** "A PUT (with a size) and a DELETE for a path are always passed on": a draft does not hold them back. */
    private static void changesAreAlwaysPassedOn(Check c) {
        FrontCache x = new FrontCache(12);
        Check.keep(x, 1, 1);
        Check.type(x, "only-if-cached");
        x.put(1, 2);
        x.delete(3);
        c.due("waiting(0)", x.waiting(0), 2);
        c.flight(x, 0, 0, 2, 2, 0);
        Check.settle(x);
        c.answer(x, 2, 204, 0, 0, 0);
        c.answer(x, 3, 404, 0, 0, 0);
        x.get(1, 0, 0);
        c.answer(x, 4, 504, 0, 0, 0);
    }
}
