/** Promises 8 (deliver), 9 (lose), 10 (copy), 14 (flights) and 15 (flight). */
public final class MessageTest {
    private static final int[] WRONG = {-1, 16, Integer.MIN_VALUE, Integer.MAX_VALUE};

    public static void main(String[] args) {
        Check c = new Check("MessageTest");
        wrongInputs(c);
        orderOfMessages(c);
        sixteenAtMost(c);
        sentAndLostAtSixteen(c);
        sameNumberSameMessage(c);
        overtaken(c);
        answersThatDoNotCount(c);
        nextIsSentBehindTheAnswer(c);
        c.end();
    }

    private static void wrongInputs(Check c) {
        FrontCache x = new FrontCache(12);
        x.put(1, 1);
        for (int k : WRONG) {
            refused(c, x, k);
        }
        refused(c, x, 1);
        c.due("flight(0, -1)", x.flight(0, -1), -1);
        c.due("flight(0, 4)", x.flight(0, 4), -1);
        c.due("flights()", x.flights(), 1);
        c.due("lose(0)", x.lose(0), true);
        refused(c, x, 0);
    }

    private static void refused(Check c, FrontCache x, int k) {
        c.due("deliver(" + k + ")", x.deliver(k), false);
        c.due("lose(" + k + ")", x.lose(k), false);
        c.due("copy(" + k + ")", x.copy(k), false);
        c.due("flight(" + k + ", 0)", x.flight(k, 0), -1);
    }

    private static void orderOfMessages(Check c) {
        FrontCache x = new FrontCache(12);
        x.get(1, 0, 0);
        x.put(2, 1);
        x.delete(0);
        c.due("flights()", x.flights(), 3);
        c.flight(x, 0, 0, 1, 1, 0);
        c.flight(x, 1, 1, 1, 2, 0);
        c.flight(x, 2, 2, 1, 3, 0);
        c.due("deliver(1)", x.deliver(1), true);
        c.flight(x, 0, 0, 1, 1, 0);
        c.flight(x, 1, 2, 1, 3, 0);
        c.flight(x, 2, 5, 1, 204, 0);
        c.due("copy(0)", x.copy(0), true);
        c.flight(x, 3, 0, 1, 1, 0);
        c.due("lose(0)", x.lose(0), true);
        c.flight(x, 0, 2, 1, 3, 0);
        c.flight(x, 1, 5, 1, 204, 0);
        c.flight(x, 2, 0, 1, 1, 0);
        c.due("deliver(0)", x.deliver(0), true);
        c.flight(x, 2, 6, 1, 404, 0);
        c.due("flights()", x.flights(), 3);
    }

    private static void sixteenAtMost(Check c) {
        FrontCache x = new FrontCache(12);
        x.put(1, 1);
        for (int i = 1; i < 16; i++) {
            c.due("copy(0)", x.copy(0), true);
            c.due("flights()", x.flights(), i + 1);
        }
        c.due("copy(0) of 16", x.copy(0), false);
        c.due("flights()", x.flights(), 16);
        c.due("deliver(15)", x.deliver(15), true);
        c.flight(x, 15, 4, 1, 204, 0);
        c.due("flight(16, 0)", x.flight(16, 0), -1);
        c.due("lose(15)", x.lose(15), true);
        c.due("copy(14)", x.copy(14), true);
        c.due("flights()", x.flights(), 16);
    }

    private static void sentAndLostAtSixteen(Check c) {
        FrontCache x = new FrontCache(12);
        x.put(1, 1);
        for (int i = 1; i < 16; i++) {
            x.copy(0);
        }
        x.put(2, 1);
        c.due("waiting(1)", x.waiting(1), 1);
        c.due("flights()", x.flights(), 16);
        c.flight(x, 15, 0, 1, 2, 0);
        Check.loseAll(x);
        Check.ticks(x, 4);
        c.flight(x, 0, 0, 1, 2, 0);
        c.flight(x, 1, 1, 1, 2, 0);
        Check.settle(x);
        c.answer(x, 2, 204, 0, 0, 0);
    }

    private static void sameNumberSameMessage(Check c) {
        FrontCache x = new FrontCache(12);
        Check.publish(x, "max-age=50", 1, 1, false);
        x.get(1, 0, 0);
        x.copy(0);
        x.deliver(0);
        x.lose(1);
        Check.ticks(x, 3);
        x.publish(1, 5, true);
        x.deliver(0);
        c.flight(x, 0, 4, 1, 200, 4);
        x.deliver(0);
        c.answer(x, 1, 200, 4, 3, 2);
        c.due("entry(0, 4)", x.entry(0, 4), 1);
        x.put(3, 2);
        x.copy(0);
        x.deliver(0);
        x.deliver(0);
        c.due("flights()", x.flights(), 2);
        c.due("version(3)", x.version(3), 3);
    }

    private static void overtaken(Check c) {
        FrontCache x = new FrontCache(12);
        x.put(1, 1);
        x.copy(0);
        x.copy(0);
        x.deliver(0);
        x.deliver(2);
        c.answer(x, 1, 204, 0, 0, 0);
        x.put(1, 2);
        c.flight(x, 2, 0, 2, 2, 0);
        x.deliver(0);
        c.flight(x, 2, 4, 1, 204, 0);
        x.deliver(1);
        c.due("version(1)", x.version(1), 2);
        x.deliver(0);
        c.due("flights() behind a smaller number", x.flights(), 2);
        c.due("version(1)", x.version(1), 2);
        x.deliver(0);
        c.answer(x, 2, 0, 0, 0, 0);
        x.deliver(0);
        c.answer(x, 2, 204, 0, 0, 0);
    }

    private static void answersThatDoNotCount(Check c) {
        FrontCache x = new FrontCache(12);
        Check.publish(x, "max-age=50", 1, 1, false);
        x.get(1, 0, 0);
        x.deliver(0);
        x.copy(0);
        x.copy(0);
        x.deliver(0);
        x.put(1, 1);
        x.deliver(2);
        x.deliver(2);
        c.answer(x, 2, 204, 0, 0, 0);
        c.due("entries()", x.entries(), 0);
        x.deliver(0);
        c.due("entries()", x.entries(), 0);
        x.delete(3);
        x.deliver(0);
        c.due("waiting(0)", x.waiting(0), 1);
        c.answer(x, 3, 0, 0, 0, 0);
    }

    private static void nextIsSentBehindTheAnswer(Check c) {
        FrontCache x = new FrontCache(12);
        Check.publish(x, "max-age=50", 1, 1, false);
        x.get(1, 0, 0);
        x.get(1, 0, 0);
        x.put(3, 1);
        c.due("flights()", x.flights(), 1);
        x.deliver(0);
        c.due("flights()", x.flights(), 1);
        x.deliver(0);
        c.flight(x, 0, 0, 2, 1, 0);
        Check.settle(x);
        c.answer(x, 2, 200, 4, 0, 2);
        c.answer(x, 3, 204, 0, 0, 0);
    }
}
