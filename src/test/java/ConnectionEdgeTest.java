/** The edges of promises 11 and 19, and those that "Terms" names for connections; each test bears its sentence. */
public final class ConnectionEdgeTest {
    private static final int LEAST = Integer.MIN_VALUE;
    private static final int GREATEST = Integer.MAX_VALUE;

    public static void main(String[] args) {
        Check c = new Check("ConnectionEdgeTest");
        waitingArguments(c);
        fourWait(c);
        fourWaitOfEveryKind(c);
        hitsWhileFourWait(c);
        numbersOfAConnection(c);
        noNumberWithoutWork(c);
        fourEightAndTwelveTicks(c);
        ticksOfTheNextOne(c);
        answersAroundTheSends(c);
        theTickThatGivesUp(c);
        onlyTheOneUnderWork(c);
        answerOfTick(c);
        oneConnectionAfterTheOther(c);
        twoInARow(c);
        anAnswerBetween(c);
        anAnswerThatDoesNotCountBetween(c);
        otherThingsBetween(c);
        aProbesAnswerBetween(c);
        aProbesAnswerAtWork(c);
        whoWaitsWhenItGoesDown(c);
        noNumberIsUsedForThese(c);
        passedOnToADownOrigin(c);
        ticksOfProbes(c);
        probesOfSeveralOrigins(c);
        downNoMore(c);
        probesStartAnew(c);
        lateAnswersOfADownOrigin(c);
        c.end();
    }

    /** "-1 when it is marked DOWN, or there is no such origin" */
    private static void waitingArguments(Check c) {
        FrontCache x = new FrontCache(12);
        for (int origin : new int[] {-1, 3, -3, 4, 256, LEAST, GREATEST}) {
            c.due("waiting(" + origin + ")", x.waiting(origin), -1);
        }
        for (int origin = 0; origin < 3; origin++) {
            c.due("waiting(" + origin + ")", x.waiting(origin), 0);
            x.power(origin, false);
            c.due("waiting(" + origin + ") of a stopped one", x.waiting(origin), 0);
        }
        Check.bringDown(x, 0);
        c.due("waiting(0)", x.waiting(0), 0);
        c.due("waiting(1)", x.waiting(1), 0);
        c.due("waiting(2)", x.waiting(2), -1);
    }

    /** "When 4 wait at that origin's connection: 503. Otherwise it waits behind them." */
    private static void fourWait(Check c) {
        FrontCache x = new FrontCache(12);
        for (int request = 1; request <= 4; request++) {
            x.put(1, request);
            c.due("waiting(0)", x.waiting(0), request);
            c.answer(x, request, 0, 0, 0, 0);
        }
        x.put(1, 5);
        c.answer(x, 5, 503, 0, 0, 0);
        c.due("waiting(0)", x.waiting(0), 4);
        c.due("flights()", x.flights(), 1);
        x.deliver(0);
        x.put(1, 6);
        c.answer(x, 6, 503, 0, 0, 0);
        x.deliver(0);
        c.due("waiting(0)", x.waiting(0), 3);
        x.put(1, 7);
        c.due("waiting(0)", x.waiting(0), 4);
        x.put(1, 8);
        c.answer(x, 8, 503, 0, 0, 0);
        Check.settle(x);
        c.answer(x, 4, 204, 0, 0, 0);
        c.answer(x, 5, 503, 0, 0, 0);
        c.answer(x, 7, 204, 0, 0, 0);
        c.due("version(1)", x.version(1), 5);
        c.due("waiting(0)", x.waiting(0), 0);
    }

    /** "When 4 wait at that origin's connection: 503.": GET, PUT and DELETE, for any of its paths, and only there. */
    private static void fourWaitOfEveryKind(Check c) {
        FrontCache x = new FrontCache(12);
        x.get(1, 0, 0);
        x.get(3, 0, 0);
        x.put(5, 1);
        x.delete(1);
        x.get(1, 0, 0);
        x.put(3, 1);
        x.delete(5);
        for (int request = 5; request <= 7; request++) {
            c.answer(x, request, 503, 0, 0, 0);
        }
        x.get(2, 0, 0);
        x.get(0, 0, 0);
        c.due("waiting(0)", x.waiting(0), 4);
        c.due("waiting(1)", x.waiting(1), 1);
        c.due("waiting(2)", x.waiting(2), 1);
        Check.settle(x);
        c.answer(x, 1, 404, 0, 0, 0);
        c.answer(x, 2, 404, 0, 0, 0);
        c.answer(x, 3, 204, 0, 0, 0);
        c.answer(x, 4, 404, 0, 0, 0);
    }

    /** A GET that is answered from the store is not passed on. */
    private static void hitsWhileFourWait(Check c) {
        FrontCache x = new FrontCache(12);
        Check.keep(x, 1, 1);
        for (int i = 0; i < 4; i++) {
            x.get(3, 0, 0);
        }
        x.get(1, 0, 0);
        c.answer(x, 6, 200, 4, 0, 1);
        Check.get(x, "no-cache", 1, 0, 4);
        c.answer(x, 7, 503, 0, 0, 0);
        c.entryTags(x, 4);
    }

    /** "when it becomes so, it gets the connection's next number (1, 2, 3, ..) and is sent" */
    private static void numbersOfAConnection(Check c) {
        FrontCache x = new FrontCache(12);
        x.put(2, 1);
        x.put(0, 1);
        x.put(0, 1);
        x.delete(6);
        c.due("flights()", x.flights(), 2);
        c.flight(x, 0, 1, 1, 2, 0);
        c.flight(x, 1, 2, 1, 2, 0);
        x.deliver(1);
        x.deliver(1);
        c.flight(x, 1, 2, 2, 2, 0);
        x.deliver(1);
        x.deliver(1);
        c.flight(x, 1, 2, 3, 3, 0);
        x.get(1, 0, 0);
        c.flight(x, 2, 0, 1, 1, 0);
    }

    /** Hits, 503 and 504 from the front use no number. */
    private static void noNumberWithoutWork(Check c) {
        FrontCache x = new FrontCache(12);
        Check.keep(x, 1, 1);
        x.get(1, 0, 0);
        Check.get(x, "only-if-cached", 3, 0, 0);
        for (int i = 0; i < 6; i++) {
            x.put(5, 1);
        }
        c.flight(x, 0, 0, 2, 2, 0);
        Check.settle(x);
        x.put(5, 1);
        c.flight(x, 0, 0, 6, 2, 0);
    }

    /** "4 and 8 ticks later, .. it is sent again; 12 ticks later it is GIVEN UP: 504" */
    private static void fourEightAndTwelveTicks(Check c) {
        for (int before = 0; before <= 3; before++) {
            FrontCache x = new FrontCache(12);
            Check.ticks(x, before);
            x.put(3, 1);
            for (int later = 1; later <= 14; later++) {
                c.due("tick()", x.tick(), before + later);
                c.due("flights() " + later + " later", x.flights(), later < 4 ? 1 : later < 8 ? 2 : 3);
                c.due("answer(1, 0) " + later + " later", x.answer(1, 0), later < 12 ? 0 : 504);
                c.due("waiting(0) " + later + " later", x.waiting(0), later < 12 ? 1 : 0);
            }
            for (int k = 0; k < 3; k++) {
                c.flight(x, k, 0, 1, 2, 0);
            }
        }
    }

    /** The next one's 4, 8 and 12 ticks are counted from when it is under work, not from when it was made. */
    private static void ticksOfTheNextOne(Check c) {
        FrontCache x = new FrontCache(12);
        x.put(3, 1);
        x.put(3, 1);
        Check.ticks(x, 3);
        Check.settle(x);
        x.put(3, 1);
        x.delete(3);
        x.tick();
        x.deliver(0);
        x.deliver(0);
        c.answer(x, 3, 204, 0, 0, 0);
        c.flight(x, 0, 0, 4, 3, 0);
        for (int later = 1; later <= 12; later++) {
            x.tick();
            c.due("flights() " + later + " later", x.flights(), later < 4 ? 1 : later < 8 ? 2 : 3);
            c.due("answer(4, 0) " + later + " later", x.answer(4, 0), later < 12 ? 0 : 504);
        }
        FrontCache y = new FrontCache(12);
        y.put(3, 1);
        y.delete(3);
        Check.ticks(y, 12);
        c.flight(y, 3, 0, 2, 3, 0);
        c.due("flights()", y.flights(), 4);
        Check.ticks(y, 3);
        c.due("flights() 3 ticks later", y.flights(), 4);
        y.tick();
        c.due("flights() 4 ticks later", y.flights(), 5);
        Check.ticks(y, 7);
        c.due("answer(2, 0) 11 ticks later", y.answer(2, 0), 0);
        y.tick();
        c.due("answer(2, 0) 12 ticks later", y.answer(2, 0), 504);
        FrontCache z = new FrontCache(12);
        for (int i = 0; i < 4; i++) {
            z.put(3, 1);
        }
        Check.ticks(z, 2);
        z.deliver(0);
        z.deliver(0);
        c.due("waiting(0) with others behind", z.waiting(0), 3);
        Check.ticks(z, 3);
        c.due("flights() 3 ticks later", z.flights(), 1);
        z.tick();
        c.due("flights() 4 ticks later", z.flights(), 2);
        Check.ticks(z, 7);
        c.due("waiting(0) 11 ticks later", z.waiting(0), 3);
        z.tick();
        c.due("waiting(0) 12 ticks later", z.waiting(0), 2);
    }

    /** "if it is still under work": an answer one tick before keeps each of the sends away. */
    private static void answersAroundTheSends(Check c) {
        for (int at : new int[] {3, 7}) {
            FrontCache x = new FrontCache(12);
            x.put(3, 1);
            Check.ticks(x, at);
            x.deliver(0);
            x.deliver(x.flights() - 1);
            c.answer(x, 1, 204, 0, 0, 0);
            int left = x.flights();
            Check.ticks(x, 10);
            c.due("flights() when answered at " + at, x.flights(), left);
        }
    }

    /** An answer 11 ticks later counts; 12 ticks later it comes too late. */
    private static void theTickThatGivesUp(Check c) {
        FrontCache x = new FrontCache(12);
        x.put(3, 1);
        x.deliver(0);
        Check.ticks(x, 11);
        x.deliver(0);
        c.answer(x, 1, 204, 0, 0, 0);
        FrontCache y = new FrontCache(12);
        Check.publish(y, "max-age=99", 3, 1, false);
        y.get(3, 0, 0);
        y.deliver(0);
        Check.ticks(y, 12);
        y.deliver(0);
        c.answer(y, 1, 504, 0, 0, 0);
        c.due("entries()", y.entries(), 0);
    }

    /** Those that wait behind the one under work are neither sent nor given up. */
    private static void onlyTheOneUnderWork(Check c) {
        FrontCache x = new FrontCache(12);
        for (int i = 0; i < 4; i++) {
            x.put(3, 1);
        }
        Check.ticks(x, 11);
        c.due("flights()", x.flights(), 3);
        c.due("waiting(0)", x.waiting(0), 4);
        x.tick();
        c.answer(x, 1, 504, 0, 0, 0);
        for (int request = 2; request <= 4; request++) {
            c.answer(x, request, 0, 0, 0, 0);
        }
        c.due("waiting(0)", x.waiting(0), 3);
        c.due("flights()", x.flights(), 4);
        x.put(3, 1);
        c.answer(x, 5, 0, 0, 0, 0);
        x.put(3, 1);
        c.answer(x, 6, 503, 0, 0, 0);
    }

    /** "The time grows by 1 .. Answers the time." */
    private static void answerOfTick(Check c) {
        FrontCache x = new FrontCache(12);
        for (int time = 1; time <= 512; time++) {
            c.due("tick()", x.tick(), time);
        }
    }

    /** "the connections of origins 0, 1, 2, one after the other, do what is due" */
    private static void oneConnectionAfterTheOther(Check c) {
        FrontCache x = new FrontCache(12);
        x.put(0, 1);
        x.put(0, 1);
        x.put(2, 1);
        x.put(1, 1);
        Check.loseAll(x);
        Check.ticks(x, 8);
        int[] origins = {0, 1, 2, 0, 1, 2};
        c.due("flights()", x.flights(), 6);
        for (int k = 0; k < 6; k++) {
            c.flight(x, k, origins[k], 1, 2, 0);
        }
        Check.ticks(x, 4);
        c.due("flights()", x.flights(), 7);
        c.flight(x, 6, 2, 2, 2, 0);
        FrontCache y = new FrontCache(12);
        y.put(1, 1);
        Check.crowd(y);
        y.lose(0);
        y.put(0, 1);
        y.lose(0);
        y.put(2, 1);
        y.lose(0);
        Check.ticks(y, 4);
        c.due("flights()", y.flights(), 16);
        c.flight(y, 15, 0, 1, 2, 0);
    }

    /** Lets the first that waits at the owner of path 3 be given up, without a message left. */
    private static void giveUpOne(FrontCache x) {
        Check.ticks(x, 12);
        Check.loseAll(x);
    }

    /** "When two in a row are given up at an origin .. it is marked DOWN" */
    private static void twoInARow(Check c) {
        FrontCache x = new FrontCache(12);
        x.put(3, 1);
        giveUpOne(x);
        c.due("waiting(0) behind one", x.waiting(0), 0);
        Check.ticks(x, 5);
        x.put(3, 1);
        Check.ticks(x, 11);
        c.due("waiting(0) before the second", x.waiting(0), 1);
        x.tick();
        c.due("waiting(0) behind the second", x.waiting(0), -1);
        c.answer(x, 2, 504, 0, 0, 0);
        FrontCache y = new FrontCache(12);
        y.put(3, 1);
        y.put(2, 1);
        y.put(0, 1);
        Check.ticks(y, 12);
        for (int origin = 0; origin < 3; origin++) {
            c.due("waiting(" + origin + ") behind one at each", y.waiting(origin), 0);
        }
        y.put(2, 1);
        Check.ticks(y, 12);
        c.due("waiting(0)", y.waiting(0), 0);
        c.due("waiting(1)", y.waiting(1), -1);
        c.due("waiting(2)", y.waiting(2), 0);
    }

    /** "(no answer that counts, .. came between)": of each kind. */
    private static void anAnswerBetween(Check c) {
        for (int kind = 0; kind < 3; kind++) {
            FrontCache x = new FrontCache(12);
            x.put(3, 1);
            giveUpOne(x);
            int request = kind == 0 ? x.get(3, 0, 0) : kind == 1 ? x.put(3, 1) : x.delete(3);
            Check.settle(x);
            c.due("answer(2, 0)", x.answer(request, 0), kind == 1 ? 204 : 404);
            x.put(3, 1);
            giveUpOne(x);
            c.due("waiting(0) behind one again", x.waiting(0), 0);
            x.put(3, 1);
            giveUpOne(x);
            c.due("waiting(0) behind two", x.waiting(0), -1);
        }
    }

    /** "(no answer that counts, .. came between)": one that comes too late, or from another origin, is none. */
    private static void anAnswerThatDoesNotCountBetween(Check c) {
        FrontCache x = new FrontCache(12);
        x.put(3, 1);
        Check.ticks(x, 12);
        x.deliver(0);
        x.deliver(x.flights() - 1);
        Check.loseAll(x);
        c.due("version(3)", x.version(3), 1);
        x.put(3, 1);
        Check.ticks(x, 1);
        giveUpOne(x);
        c.due("waiting(0) behind a late answer", x.waiting(0), -1);
        FrontCache y = new FrontCache(12);
        y.put(3, 1);
        giveUpOne(y);
        y.put(2, 1);
        Check.settle(y);
        c.answer(y, 2, 204, 0, 0, 0);
        y.put(3, 1);
        giveUpOne(y);
        c.due("waiting(0) behind another origin's answer", y.waiting(0), -1);
    }

    /** Hits, 503, 504 from the front and a stop and start are no answers of the origin. */
    private static void otherThingsBetween(Check c) {
        FrontCache x = new FrontCache(12);
        Check.keep(x, 1, 1);
        x.put(3, 1);
        giveUpOne(x);
        x.get(1, 0, 0);
        c.answer(x, 3, 200, 4, 12, 1);
        Check.get(x, "only-if-cached", 5, 0, 0);
        x.power(0, false);
        x.power(0, true);
        for (int i = 0; i < 5; i++) {
            x.put(3, 1);
        }
        c.answer(x, 9, 503, 0, 0, 0);
        giveUpOne(x);
        c.due("waiting(0)", x.waiting(0), -1);
    }

    /** "(.. and none to a probe, came between)": one that came while the origin was not DOWN. */
    private static void aProbesAnswerBetween(Check c) {
        FrontCache x = new FrontCache(12);
        Check.bringDown(x, 3);
        Check.ticks(x, 10);
        x.deliver(0);
        x.copy(0);
        x.deliver(0);
        c.due("waiting(0)", x.waiting(0), 0);
        x.put(3, 1);
        Check.ticks(x, 12);
        c.flight(x, 0, 4, 0, 0, 0);
        x.deliver(0);
        Check.loseAll(x);
        x.put(3, 1);
        giveUpOne(x);
        c.due("waiting(0) behind a probe's answer", x.waiting(0), 0);
        x.put(3, 1);
        giveUpOne(x);
        c.due("waiting(0) behind two", x.waiting(0), -1);
    }

    /** A probe's answer ends the row, not the work: who is under work is sent again and given up as before. */
    private static void aProbesAnswerAtWork(Check c) {
        FrontCache x = new FrontCache(12);
        Check.bringDown(x, 3);
        Check.ticks(x, 10);
        x.deliver(0);
        x.copy(0);
        x.copy(0);
        x.deliver(0);
        int first = x.put(3, 1);
        int second = x.put(3, 1);
        x.lose(2);
        Check.ticks(x, 3);
        x.deliver(0);
        c.due("waiting(0) behind a probe's answer", x.waiting(0), 2);
        x.tick();
        c.flight(x, 1, 0, 3, 2, 0);
        Check.ticks(x, 8);
        c.answer(x, first, 504, 0, 0, 0);
        c.answer(x, second, 0, 0, 0, 0);
        c.due("waiting(0) behind the first", x.waiting(0), 1);
        x.deliver(0);
        Check.loseAll(x);
        Check.ticks(x, 12);
        c.answer(x, second, 504, 0, 0, 0);
        c.due("waiting(0) behind the second", x.waiting(0), 0);
        x.put(3, 1);
        giveUpOne(x);
        c.due("waiting(0) behind the third", x.waiting(0), -1);
    }

    /** "all that wait there are 502, in their order": from none to three. */
    private static void whoWaitsWhenItGoesDown(Check c) {
        for (int behind = 0; behind <= 3; behind++) {
            FrontCache x = new FrontCache(12);
            x.put(3, 1);
            giveUpOne(x);
            x.put(3, 1);
            for (int i = 0; i < behind; i++) {
                x.get(1, 0, 0);
            }
            x.put(2, 1);
            Check.loseAll(x);
            Check.ticks(x, 11);
            c.due("waiting(0)", x.waiting(0), 1 + behind);
            Check.loseAll(x);
            x.tick();
            c.due("waiting(0)", x.waiting(0), -1);
            c.due("waiting(1)", x.waiting(1), 0);
            c.answer(x, 2, 504, 0, 0, 0);
            for (int i = 0; i < behind; i++) {
                c.answer(x, 3 + i, 502, 0, 0, 0);
            }
            c.answer(x, 3 + behind, 504, 0, 0, 0);
            c.due("flights()", x.flights(), 0);
        }
    }

    /** "(nothing is sent, and no number is used, for these)" */
    private static void noNumberIsUsedForThese(Check c) {
        FrontCache x = new FrontCache(12);
        for (int i = 0; i < 4; i++) {
            x.put(3, 1);
        }
        giveUpOne(x);
        giveUpOne(x);
        c.answer(x, 4, 502, 0, 0, 0);
        x.put(3, 1);
        c.answer(x, 5, 502, 0, 0, 0);
        c.due("flights()", x.flights(), 0);
        Check.ticks(x, 10);
        Check.settle(x);
        x.put(3, 1);
        c.flight(x, 0, 0, 3, 2, 0);
    }

    /** "What is passed on to an origin that is marked DOWN: 502." */
    private static void passedOnToADownOrigin(Check c) {
        FrontCache x = new FrontCache(12);
        Check.publish(x, "max-age=30", 1, 1, false);
        Check.load(x, 1, 0);
        Check.bringDown(x, 3);
        x.get(1, 0, 0);
        c.answer(x, 4, 200, 4, 24, 1);
        Check.get(x, "no-cache", 1, 0, 4);
        c.answer(x, 5, 502, 0, 0, 0);
        x.get(5, 0, 0);
        c.answer(x, 6, 502, 0, 0, 0);
        x.put(1, 1);
        c.answer(x, 7, 502, 0, 0, 0);
        x.delete(1);
        c.answer(x, 8, 502, 0, 0, 0);
        c.entryTags(x, 4);
        c.due("flights()", x.flights(), 0);
        c.due("waiting(0)", x.waiting(0), -1);
        x.get(2, 0, 0);
        c.answer(x, 9, 0, 0, 0, 0);
    }

    /** "a PROBE is sent to it 10 ticks after it was marked, 20 ticks after it, and so on" */
    private static void ticksOfProbes(Check c) {
        FrontCache x = new FrontCache(12);
        x.tick();
        Check.bringDown(x, 3);
        for (int later = 1; later <= 41; later++) {
            x.tick();
            c.due("flights() " + later + " ticks later", x.flights(), later / 10);
        }
        for (int k = 0; k < 4; k++) {
            c.flight(x, k, 0, 0, 0, 0);
        }
        c.due("waiting(0)", x.waiting(0), -1);
    }

    /** "While an origin is DOWN a PROBE is sent to it": to each of them, and to no other. */
    private static void probesOfSeveralOrigins(Check c) {
        FrontCache x = new FrontCache(12);
        for (int path = 0; path < 3; path++) {
            x.put(path, 1);
            x.put(path, 1);
        }
        giveUpOne(x);
        giveUpOne(x);
        for (int origin = 0; origin < 3; origin++) {
            c.due("waiting(" + origin + ")", x.waiting(origin), -1);
        }
        Check.ticks(x, 10);
        c.due("flights()", x.flights(), 3);
        for (int k = 0; k < 3; k++) {
            c.flight(x, k, k, 0, 0, 0);
        }
        x.deliver(1);
        c.flight(x, 2, 5, 0, 0, 0);
        x.deliver(2);
        c.due("waiting(0)", x.waiting(0), -1);
        c.due("waiting(1)", x.waiting(1), 0);
        c.due("waiting(2)", x.waiting(2), -1);
        Check.ticks(x, 10);
        c.due("flights()", x.flights(), 4);
        c.flight(x, 2, 0, 0, 0, 0);
        c.flight(x, 3, 2, 0, 0, 0);
    }

    /** "When the answer to a probe comes from an origin that is DOWN, it is DOWN no more." */
    private static void downNoMore(Check c) {
        FrontCache x = new FrontCache(12);
        Check.bringDown(x, 3);
        Check.ticks(x, 10);
        x.deliver(0);
        c.flight(x, 0, 4, 0, 0, 0);
        c.due("waiting(0)", x.waiting(0), -1);
        x.put(3, 1);
        c.answer(x, 3, 502, 0, 0, 0);
        x.deliver(0);
        c.due("waiting(0)", x.waiting(0), 0);
        x.put(3, 1);
        c.answer(x, 4, 0, 0, 0, 0);
        Check.settle(x);
        c.answer(x, 4, 204, 0, 0, 0);
        c.answer(x, 3, 502, 0, 0, 0);
        Check.ticks(x, 30);
        c.due("flights() without a probe", x.flights(), 0);
    }

    /** DOWN again: two more must be given up, and probes are counted from the new mark. */
    private static void probesStartAnew(Check c) {
        FrontCache x = new FrontCache(12);
        Check.bringDown(x, 3);
        Check.ticks(x, 10);
        Check.settle(x);
        Check.ticks(x, 3);
        x.put(3, 1);
        giveUpOne(x);
        c.due("waiting(0) behind one", x.waiting(0), 0);
        x.put(3, 1);
        giveUpOne(x);
        c.due("waiting(0) behind two", x.waiting(0), -1);
        for (int later = 1; later <= 20; later++) {
            x.tick();
            c.due("flights() " + later + " ticks later", x.flights(), later / 10);
        }
        x.put(2, 1);
        x.deliver(2);
        x.deliver(2);
        c.due("waiting(0) behind another origin's answer", x.waiting(0), -1);
    }

    /** Only the answer to a probe ends it; a late answer to a request does not. */
    private static void lateAnswersOfADownOrigin(Check c) {
        FrontCache x = new FrontCache(12);
        x.put(3, 1);
        x.put(3, 1);
        Check.ticks(x, 12);
        x.deliver(3);
        c.flight(x, x.flights() - 1, 4, 2, 204, 0);
        Check.ticks(x, 12);
        c.due("waiting(0)", x.waiting(0), -1);
        while (x.flights() > 0) {
            x.deliver(0);
        }
        c.due("waiting(0) behind late answers", x.waiting(0), -1);
        c.answer(x, 1, 504, 0, 0, 0);
        c.answer(x, 2, 504, 0, 0, 0);
    }
}
