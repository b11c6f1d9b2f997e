/** The edges of promises 8, 9, 10, 14, 15, and those that "Terms" names for messages; each test bears its sentence. */
public final class MessageEdgeTest {
    private static final int[] NONE_OF_THREE = {3, 4, 15, 16, -1, -3, Integer.MIN_VALUE, Integer.MAX_VALUE};

    public static void main(String[] args) {
        Check c = new Check("MessageEdgeTest");
        noneUnderWay(c);
        whichMessage(c);
        theOrderOfSending(c);
        whatOfAMessage(c);
        tagsOfMessages(c);
        copiesGoToTheEnd(c);
        sixteenCopies(c);
        aRequestSentAtSixteen(c);
        aRepeatSentAtSixteen(c);
        theNextOneSentAtSixteen(c);
        aProbeSentAtSixteen(c);
        anAnswerHasTheRoomOfItsRequest(c);
        theNextOneHasTheRoomOfTheAnswer(c);
        copiesOfAnswers(c);
        answersThatCount(c);
        answersOfOtherConnections(c);
        answersOutOfOrder(c);
        c.end();
    }

    /** "false when there is none"; "-1 when there is none": in an object without messages. */
    private static void noneUnderWay(Check c) {
        FrontCache x = new FrontCache(12);
        c.due("flights()", x.flights(), 0);
        for (int k : new int[] {0, 1, -1}) {
            refused(c, x, k);
        }
        c.due("flights()", x.flights(), 0);
    }

    private static void refused(Check c, FrontCache x, int k) {
        c.due("deliver(" + k + ")", x.deliver(k), false);
        c.due("lose(" + k + ")", x.lose(k), false);
        c.due("copy(" + k + ")", x.copy(k), false);
        for (int w = 0; w < 4; w++) {
            c.due("flight(" + k + ", " + w + ")", x.flight(k, w), -1);
        }
    }

    /** A PUT at each origin: messages 0, 1, 2 go to origins 2, 0, 1. */
    private static FrontCache three() {
        FrontCache x = new FrontCache(12);
        x.put(0, 1);
        x.put(1, 1);
        x.put(2, 1);
        return x;
    }

    private static void origins(Check c, FrontCache x, int... due) {
        c.due("flights()", x.flights(), due.length);
        for (int k = 0; k < due.length; k++) {
            c.due("flight(" + k + ", 0)", x.flight(k, 0), due[k]);
        }
    }

    /** "the k-th message under way (from 0)": the first, the last, and those beyond. */
    private static void whichMessage(Check c) {
        FrontCache x = three();
        for (int k : NONE_OF_THREE) {
            refused(c, x, k);
        }
        origins(c, x, 2, 0, 1);
        c.due("deliver(2)", x.deliver(2), true);
        origins(c, x, 2, 0, 5);
        c.due("deliver(0)", x.deliver(0), true);
        origins(c, x, 0, 5, 6);
        c.due("lose(2)", x.lose(2), true);
        origins(c, x, 0, 5);
        refused(c, x, 2);
        c.due("lose(0)", x.lose(0), true);
        origins(c, x, 5);
        refused(c, x, 1);
        c.due("copy(0)", x.copy(0), true);
        origins(c, x, 5, 5);
        c.due("lose(1)", x.lose(1), true);
        c.due("deliver(0)", x.deliver(0), true);
        origins(c, x);
        refused(c, x, 0);
        c.answer(x, 1, 0, 0, 0, 0);
        c.answer(x, 2, 0, 0, 0, 0);
        c.answer(x, 3, 204, 0, 0, 0);
    }

    /** "MESSAGES under way are in the order in which they were sent" */
    private static void theOrderOfSending(Check c) {
        FrontCache x = three();
        x.lose(1);
        origins(c, x, 2, 1);
        x.put(3, 1);
        origins(c, x, 2, 1);
        Check.ticks(x, 4);
        origins(c, x, 2, 1, 0, 1, 2);
        x.deliver(1);
        origins(c, x, 2, 0, 1, 2, 5);
        x.deliver(4);
        origins(c, x, 2, 0, 1, 2);
        x.deliver(1);
        x.deliver(3);
        origins(c, x, 2, 1, 2, 0);
    }

    /** "-1 when there is none, or w is not 0 .. 3" */
    private static void whatOfAMessage(Check c) {
        FrontCache x = three();
        for (int w : new int[] {-1, 4, -4, 5, Integer.MIN_VALUE, Integer.MAX_VALUE}) {
            for (int k = -1; k <= 3; k++) {
                c.due("flight(" + k + ", " + w + ")", x.flight(k, w), -1);
            }
        }
        for (int origin = 0; origin < 3; origin++) {
            int path = new int[] {1, 2, 0}[origin];
            FrontCache y = new FrontCache(12);
            y.get(path, 0, 0);
            c.flight(y, 0, origin, 1, 1, 0);
            y.deliver(0);
            c.flight(y, 0, origin + 4, 1, 404, 0);
            y.deliver(0);
            y.put(path, 1);
            c.flight(y, 0, origin, 2, 2, 0);
            y.deliver(0);
            c.flight(y, 0, origin + 4, 2, 204, 0);
            y.deliver(0);
            y.delete(path);
            c.flight(y, 0, origin, 3, 3, 0);
            y.deliver(0);
            c.flight(y, 0, origin + 4, 3, 204, 0);
            y.deliver(0);
            Check.bringDown(y, path);
            Check.ticks(y, 10);
            c.flight(y, 0, origin, 0, 0, 0);
            y.deliver(0);
            c.flight(y, 0, origin + 4, 0, 0, 0);
        }
    }

    /** "that of the entry that a GET is to confirm, of the resource in an answer 200 or 304, 0 otherwise" */
    private static void tagsOfMessages(Check c) {
        FrontCache x = new FrontCache(12);
        Check.publish(x, "max-age=9", 1, 1, true);
        x.get(1, 3, 9);
        c.flight(x, 0, 0, 1, 1, 0);
        x.deliver(0);
        c.flight(x, 0, 4, 1, 200, 7);
        x.deliver(0);
        Check.get(x, "no-cache", 1, 3, 9);
        c.flight(x, 0, 0, 2, 1, 7);
        x.deliver(0);
        c.flight(x, 0, 4, 2, 304, 7);
        x.deliver(0);
        Check.get(x, "no-cache", 1, 2, 7);
        c.flight(x, 0, 0, 3, 1, 0);
        x.lose(0);
        x.put(1, 1);
        x.delete(1);
        Check.ticks(x, 4);
        x.deliver(0);
        c.flight(x, 0, 4, 3, 200, 6);
        x.deliver(0);
        c.flight(x, 0, 0, 4, 2, 0);
        x.deliver(0);
        c.flight(x, 0, 4, 4, 204, 0);
        x.deliver(0);
        c.flight(x, 0, 0, 5, 3, 0);
    }

    /** "Sends the k-th message under way once more": it is the last then, and the first one stays. */
    private static void copiesGoToTheEnd(Check c) {
        FrontCache x = three();
        c.due("copy(1)", x.copy(1), true);
        origins(c, x, 2, 0, 1, 0);
        c.due("copy(3)", x.copy(3), true);
        origins(c, x, 2, 0, 1, 0, 0);
        c.due("copy(0)", x.copy(0), true);
        origins(c, x, 2, 0, 1, 0, 0, 2);
        c.due("copy(6)", x.copy(6), false);
        c.flight(x, 4, 0, 1, 2, 0);
    }

    /** "false when there is none or 16 are under way" */
    private static void sixteenCopies(Check c) {
        FrontCache x = three();
        for (int flights = 3; flights < 16; flights++) {
            c.due("copy(2) of " + flights, x.copy(2), true);
            c.due("flights()", x.flights(), flights + 1);
        }
        for (int k = -1; k <= 17; k++) {
            c.due("copy(" + k + ") of 16", x.copy(k), false);
        }
        c.due("flights()", x.flights(), 16);
        c.due("deliver(16)", x.deliver(16), false);
        c.due("lose(16)", x.lose(16), false);
        c.due("flight(16, 0)", x.flight(16, 0), -1);
        c.due("flight(15, 0)", x.flight(15, 0), 1);
        c.due("lose(15)", x.lose(15), true);
        c.due("copy(0) of 15", x.copy(0), true);
        c.due("flight(15, 0)", x.flight(15, 0), 2);
        c.due("copy(0) of 16", x.copy(0), false);
    }

    /** An object with a PUT at origin 0 under work and this many copies of it under way. */
    private static FrontCache crowded(int flights) {
        FrontCache x = new FrontCache(12);
        x.put(1, 1);
        for (int i = 1; i < flights; i++) {
            x.copy(0);
        }
        return x;
    }

    /** "at most 16; one that is sent when 16 are there is lost": it waits all the same, and its number is used. */
    private static void aRequestSentAtSixteen(Check c) {
        FrontCache x = crowded(15);
        x.put(2, 1);
        c.due("flights()", x.flights(), 16);
        c.flight(x, 15, 1, 1, 2, 0);
        x = crowded(16);
        x.put(2, 1);
        c.due("flights()", x.flights(), 16);
        c.flight(x, 15, 0, 1, 2, 0);
        c.due("waiting(1)", x.waiting(1), 1);
        c.answer(x, 2, 0, 0, 0, 0);
        Check.loseAll(x);
        Check.ticks(x, 4);
        origins(c, x, 0, 1);
        c.flight(x, 1, 1, 1, 2, 0);
        Check.loseAll(x);
        Check.ticks(x, 8);
        c.answer(x, 2, 504, 0, 0, 0);
        x.put(2, 1);
        c.flight(x, x.flights() - 1, 1, 2, 2, 0);
    }

    /** "one that is sent when 16 are there is lost": what is sent again 4 ticks later; 8 ticks later there is room. */
    private static void aRepeatSentAtSixteen(Check c) {
        FrontCache x = crowded(16);
        Check.ticks(x, 4);
        c.due("flights()", x.flights(), 16);
        x.lose(0);
        Check.ticks(x, 3);
        c.due("flights() without what was lost", x.flights(), 15);
        x.tick();
        c.due("flights() 8 ticks later", x.flights(), 16);
        Check.ticks(x, 4);
        c.answer(x, 1, 504, 0, 0, 0);
        c.due("flights()", x.flights(), 16);
    }

    /** The one that is under work next, sent when 16 are there because the one before was given up. */
    private static void theNextOneSentAtSixteen(Check c) {
        FrontCache x = crowded(16);
        x.delete(1);
        Check.ticks(x, 12);
        c.answer(x, 1, 504, 0, 0, 0);
        c.flight(x, 15, 0, 1, 2, 0);
        Check.loseAll(x);
        Check.ticks(x, 4);
        origins(c, x, 0);
        c.flight(x, 0, 0, 2, 3, 0);
    }

    /** "one that is sent when 16 are there is lost": a probe 10 ticks after the mark; the one at 20 has room. */
    private static void aProbeSentAtSixteen(Check c) {
        FrontCache x = new FrontCache(12);
        Check.bringDown(x, 3);
        x.put(2, 1);
        Check.crowd(x);
        Check.ticks(x, 10);
        c.due("flights()", x.flights(), 16);
        c.due("flight(15, 0)", x.flight(15, 0), 1);
        x.lose(0);
        Check.ticks(x, 9);
        c.due("flights()", x.flights(), 15);
        x.tick();
        c.due("flights()", x.flights(), 16);
        c.flight(x, 15, 0, 0, 0, 0);
    }

    /** "Takes the k-th message under way (from 0) out; it comes to where it goes." */
    private static void anAnswerHasTheRoomOfItsRequest(Check c) {
        FrontCache x = crowded(16);
        c.due("deliver(0)", x.deliver(0), true);
        c.due("flights()", x.flights(), 16);
        c.flight(x, 0, 0, 1, 2, 0);
        c.flight(x, 15, 4, 1, 204, 0);
        c.due("deliver(14)", x.deliver(14), true);
        c.flight(x, 14, 4, 1, 204, 0);
        c.flight(x, 15, 4, 1, 204, 0);
        x.power(0, false);
        c.due("deliver(0) to a stopped one", x.deliver(0), true);
        c.due("flights()", x.flights(), 15);
    }

    /** "Takes the k-th message under way (from 0) out": an answer makes room for the next request. */
    private static void theNextOneHasTheRoomOfTheAnswer(Check c) {
        FrontCache x = crowded(16);
        x.delete(1);
        x.deliver(0);
        c.due("deliver(15)", x.deliver(15), true);
        c.answer(x, 1, 204, 0, 0, 0);
        c.due("flights()", x.flights(), 16);
        c.flight(x, 15, 0, 2, 3, 0);
    }

    /** A copied answer counts once. */
    private static void copiesOfAnswers(Check c) {
        FrontCache x = new FrontCache(12);
        Check.publish(x, "max-age=99", 1, 1, false);
        x.get(1, 0, 0);
        x.deliver(0);
        x.copy(0);
        x.tick();
        x.deliver(0);
        c.answer(x, 1, 200, 4, 1, 2);
        x.tick();
        c.due("deliver(0)", x.deliver(0), true);
        c.answer(x, 1, 200, 4, 1, 2);
        c.entry(x, 0, 1, 4, 2, 99, 1, -2);
        c.due("flights()", x.flights(), 0);
    }

    /** "counts only when the one under work at that connection has its number": the same, not a smaller one. */
    private static void answersThatCount(Check c) {
        FrontCache x = new FrontCache(12);
        x.put(1, 1);
        x.deliver(0);
        x.copy(0);
        x.copy(0);
        x.deliver(0);
        c.answer(x, 1, 204, 0, 0, 0);
        x.get(1, 0, 0);
        x.delete(1);
        x.deliver(0);
        c.answer(x, 2, 0, 0, 0, 0);
        c.due("waiting(0)", x.waiting(0), 2);
        c.flight(x, 1, 0, 2, 1, 0);
        x.deliver(1);
        x.deliver(1);
        c.answer(x, 2, 200, 4, 0, 2);
        x.deliver(0);
        c.answer(x, 3, 0, 0, 0, 0);
        Check.settle(x);
        c.answer(x, 3, 204, 0, 0, 0);
    }

    /** "at that connection": the same number of another origin is another's. */
    private static void answersOfOtherConnections(Check c) {
        FrontCache x = three();
        x.deliver(1);
        x.deliver(2);
        c.answer(x, 2, 204, 0, 0, 0);
        c.answer(x, 1, 0, 0, 0, 0);
        c.answer(x, 3, 0, 0, 0, 0);
        c.due("waiting(0)", x.waiting(0), 0);
        c.due("waiting(1)", x.waiting(1), 1);
        c.due("waiting(2)", x.waiting(2), 1);
    }

    /** An answer that is overtaken by its own second sending is nothing when it comes. */
    private static void answersOutOfOrder(Check c) {
        FrontCache x = new FrontCache(12);
        x.put(1, 1);
        x.put(1, 2);
        Check.ticks(x, 4);
        x.deliver(0);
        x.deliver(0);
        c.due("flights()", x.flights(), 2);
        x.deliver(1);
        c.answer(x, 1, 204, 0, 0, 0);
        c.answer(x, 2, 0, 0, 0, 0);
        c.flight(x, 0, 4, 1, 204, 0);
        c.flight(x, 1, 0, 2, 2, 0);
        x.deliver(1);
        x.deliver(1);
        c.answer(x, 2, 204, 0, 0, 0);
        x.deliver(0);
        c.due("version(1)", x.version(1), 2);
        c.due("waiting(0)", x.waiting(0), 0);
    }
}
