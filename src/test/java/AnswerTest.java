/** Promise 13 (answer). */
public final class AnswerTest {
    public static void main(String[] args) {
        Check c = new Check("AnswerTest");
        wrongInputs(c);
        sixteenAreKept(c);
        lateAnswers(c);
        c.end();
    }

    private static void wrongInputs(Check c) {
        FrontCache x = new FrontCache(12);
        x.delete(1);
        c.due("answer(0, 0)", x.answer(0, 0), -1);
        c.due("answer(-1, 0)", x.answer(-1, 0), -1);
        c.due("answer(2, 0)", x.answer(2, 0), -1);
        c.due("answer(17, 0)", x.answer(17, 0), -1);
        c.due("answer(least, 0)", x.answer(Integer.MIN_VALUE, 0), -1);
        c.due("answer(greatest, 0)", x.answer(Integer.MAX_VALUE, 0), -1);
        c.due("answer(1, -1)", x.answer(1, -1), -1);
        c.due("answer(1, 4)", x.answer(1, 4), -1);
        c.answer(x, 1, 0, 0, 0, 0);
    }

    private static void sixteenAreKept(Check c) {
        FrontCache x = new FrontCache(12);
        for (int i = 1; i <= 16; i++) {
            Check.get(x, "only-if-cached", 1, 0, 0);
            c.answer(x, i, 504, 0, 0, 0);
            c.due("answer(1, 0)", x.answer(1, 0), 504);
        }
        c.due("get(8, 0, 0)", x.get(8, 0, 0), -1);
        c.due("answer(1, 0)", x.answer(1, 0), 504);
        c.due("delete(1)", x.delete(1), 17);
        c.due("answer(1, 0)", x.answer(1, 0), -1);
        c.due("answer(2, 0)", x.answer(2, 0), 504);
        c.answer(x, 17, 0, 0, 0, 0);
    }

    private static void lateAnswers(Check c) {
        FrontCache x = new FrontCache(12);
        Check.publish(x, "max-age=9", 1, 1, false);
        x.get(1, 0, 0);
        for (int i = 2; i <= 17; i++) {
            Check.get(x, "only-if-cached", 2, 0, 0);
        }
        Check.settle(x);
        c.due("answer(1, 0)", x.answer(1, 0), -1);
        c.answer(x, 17, 504, 0, 0, 0);
        c.entryTags(x, 4);
        c.due("waiting(0)", x.waiting(0), 0);
    }
}
