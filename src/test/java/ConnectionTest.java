/** Promises 11 (tick), 12 (power) and 19 (waiting). */
public final class ConnectionTest {
    public static void main(String[] args) {
        Check c = new Check("ConnectionTest");
        waiting(c);
        sentAgain(c);
        givenUp(c);
        orderOfConnections(c);
        markedDown(c);
        probes(c);
        notInARow(c);
        probeAnswerBetween(c);
        downAgain(c);
        power(c);
        c.end();
    }

    private static void waiting(Check c) {
        FrontCache x = new FrontCache(12);
        c.due("waiting(-1)", x.waiting(-1), -1);
        c.due("waiting(3)", x.waiting(3), -1);
        for (int i = 1; i <= 4; i++) {
            x.get(1, 0, 0);
            c.due("waiting(0)", x.waiting(0), i);
        }
        x.put(3, 1);
        c.answer(x, 5, 503, 0, 0, 0);
        x.delete(5);
        c.answer(x, 6, 503, 0, 0, 0);
        c.due("waiting(0)", x.waiting(0), 4);
        c.due("waiting(1)", x.waiting(1), 0);
        c.due("flights()", x.flights(), 1);
        x.deliver(0);
        c.due("waiting(0)", x.waiting(0), 4);
        x.deliver(0);
        c.due("waiting(0)", x.waiting(0), 3);
        x.put(3, 1);
        c.answer(x, 7, 0, 0, 0, 0);
        Check.settle(x);
        c.due("waiting(0)", x.waiting(0), 0);
        c.answer(x, 7, 204, 0, 0, 0);
    }

    private static void sentAgain(Check c) {
        FrontCache x = new FrontCache(12);
        x.tick();
        x.put(1, 1);
        for (int later = 1; later <= 11; later++) {
            c.due("tick()", x.tick(), 1 + later);
            c.due("flights() " + later + " ticks later", x.flights(), later < 4 ? 1 : later < 8 ? 2 : 3);
        }
        c.flight(x, 1, 0, 1, 2, 0);
        c.flight(x, 2, 0, 1, 2, 0);
        FrontCache y = new FrontCache(12);
        y.put(1, 1);
        Check.settle(y);
        Check.ticks(y, 30);
        c.due("flights() when it is done", y.flights(), 0);
        c.due("waiting(0)", y.waiting(0), 0);
    }

    private static void givenUp(Check c) {
        FrontCache x = new FrontCache(12);
        x.put(1, 1);
        x.get(3, 0, 0);
        Check.ticks(x, 11);
        c.answer(x, 1, 0, 0, 0, 0);
        c.due("waiting(0)", x.waiting(0), 2);
        x.tick();
        c.answer(x, 1, 504, 0, 0, 0);
        c.due("waiting(0)", x.waiting(0), 1);
        c.due("flights()", x.flights(), 4);
        c.flight(x, 3, 0, 2, 1, 0);
        Check.ticks(x, 3);
        c.due("flights()", x.flights(), 4);
        x.tick();
        c.due("flights()", x.flights(), 5);
        x.deliver(0);
        c.flight(x, 4, 4, 1, 204, 0);
        x.deliver(4);
        c.answer(x, 1, 504, 0, 0, 0);
        c.answer(x, 2, 0, 0, 0, 0);
    }

    private static void orderOfConnections(Check c) {
        FrontCache x = new FrontCache(12);
        x.delete(0);
        x.delete(2);
        x.delete(1);
        Check.ticks(x, 4);
        c.due("flights()", x.flights(), 6);
        c.flight(x, 3, 0, 1, 3, 0);
        c.flight(x, 4, 1, 1, 3, 0);
        c.flight(x, 5, 2, 1, 3, 0);
    }

    private static void markedDown(Check c) {
        FrontCache x = new FrontCache(12);
        x.put(1, 1);
        x.get(3, 0, 0);
        x.delete(5);
        x.put(1, 1);
        for (int i = 0; i < 23; i++) {
            x.tick();
            Check.loseAll(x);
        }
        c.answer(x, 2, 0, 0, 0, 0);
        c.due("waiting(0)", x.waiting(0), 3);
        x.tick();
        c.answer(x, 2, 504, 0, 0, 0);
        c.answer(x, 3, 502, 0, 0, 0);
        c.answer(x, 4, 502, 0, 0, 0);
        c.due("waiting(0)", x.waiting(0), -1);
        c.due("waiting(1)", x.waiting(1), 0);
        c.due("flights()", x.flights(), 0);
        x.get(1, 0, 0);
        x.put(1, 1);
        x.delete(1);
        Check.get(x, "only-if-cached", 1, 0, 0);
        c.answer(x, 5, 502, 0, 0, 0);
        c.answer(x, 6, 502, 0, 0, 0);
        c.answer(x, 7, 502, 0, 0, 0);
        c.answer(x, 8, 504, 0, 0, 0);
        c.due("flights()", x.flights(), 0);
        x.put(2, 1);
        c.flight(x, 0, 1, 1, 2, 0);
        Check.settle(x);
        Check.ticks(x, 10);
        Check.settle(x);
        c.due("waiting(0) when it is DOWN no more", x.waiting(0), 0);
        c.answer(x, 4, 502, 0, 0, 0);
        x.put(1, 1);
        c.flight(x, 0, 0, 3, 2, 0);
    }

    private static void probes(Check c) {
        FrontCache x = new FrontCache(12);
        x.power(0, false);
        Check.bringDown(x, 1);
        c.due("flights()", x.flights(), 0);
        Check.ticks(x, 9);
        c.due("flights()", x.flights(), 0);
        x.tick();
        c.due("flights()", x.flights(), 1);
        c.flight(x, 0, 0, 0, 0, 0);
        c.due("deliver(0)", x.deliver(0), true);
        c.due("flights()", x.flights(), 0);
        Check.ticks(x, 9);
        c.due("flights()", x.flights(), 0);
        x.tick();
        c.due("flights()", x.flights(), 1);
        x.power(0, true);
        x.copy(0);
        x.deliver(0);
        c.flight(x, 1, 4, 0, 0, 0);
        c.due("waiting(0)", x.waiting(0), -1);
        x.deliver(1);
        c.due("waiting(0)", x.waiting(0), 0);
        x.deliver(0);
        c.flight(x, 0, 4, 0, 0, 0);
        Check.loseAll(x);
        Check.ticks(x, 30);
        c.due("flights() when it is not DOWN", x.flights(), 0);
        x.put(1, 1);
        c.flight(x, 0, 0, 3, 2, 0);
        Check.settle(x);
        c.answer(x, 3, 204, 0, 0, 0);
    }

    private static void notInARow(Check c) {
        FrontCache x = new FrontCache(12);
        for (int i = 0; i < 4; i++) {
            x.delete(1);
        }
        Check.ticks(x, 12);
        Check.loseAll(x);
        Check.ticks(x, 4);
        Check.settle(x);
        c.due("waiting(0)", x.waiting(0), 0);
        x.delete(1);
        Check.ticks(x, 12);
        Check.loseAll(x);
        c.due("waiting(0) behind an answer between", x.waiting(0), 0);
        x.delete(1);
        Check.ticks(x, 12);
        c.due("waiting(0)", x.waiting(0), -1);
        FrontCache y = new FrontCache(12);
        y.delete(1);
        y.copy(0);
        Check.ticks(y, 12);
        y.deliver(0);
        y.deliver(y.flights() - 1);
        y.delete(1);
        Check.ticks(y, 12);
        c.due("waiting(0) behind an answer that does not count", y.waiting(0), -1);
        FrontCache z = new FrontCache(12);
        z.delete(1);
        z.delete(2);
        Check.ticks(z, 12);
        c.due("waiting(0) behind one at each", z.waiting(0), 0);
        c.due("waiting(1) behind one at each", z.waiting(1), 0);
    }

    private static void probeAnswerBetween(Check c) {
        FrontCache x = new FrontCache(12);
        Check.bringDown(x, 1);
        Check.ticks(x, 10);
        x.copy(0);
        x.deliver(0);
        x.deliver(0);
        x.deliver(0);
        c.due("waiting(0)", x.waiting(0), 0);
        x.delete(1);
        Check.ticks(x, 12);
        c.flight(x, 0, 4, 0, 0, 0);
        x.deliver(0);
        Check.loseAll(x);
        x.delete(1);
        Check.ticks(x, 12);
        c.due("waiting(0) behind a probe's answer between", x.waiting(0), 0);
        x.delete(1);
        Check.ticks(x, 12);
        c.due("waiting(0)", x.waiting(0), -1);
    }

    private static void downAgain(Check c) {
        FrontCache x = new FrontCache(12);
        Check.bringDown(x, 1);
        Check.ticks(x, 10);
        Check.settle(x);
        Check.ticks(x, 3);
        x.delete(1);
        Check.ticks(x, 12);
        c.due("waiting(0) behind one given up", x.waiting(0), 0);
        x.delete(1);
        Check.ticks(x, 12);
        c.due("waiting(0) behind two given up", x.waiting(0), -1);
        Check.loseAll(x);
        Check.ticks(x, 9);
        c.due("flights()", x.flights(), 0);
        x.tick();
        c.flight(x, 0, 0, 0, 0, 0);
    }

    private static void power(Check c) {
        FrontCache x = new FrontCache(12);
        c.due("power(-1, false)", x.power(-1, false), false);
        c.due("power(3, false)", x.power(3, false), false);
        c.due("power(1, true)", x.power(1, true), false);
        c.due("power(1, false)", x.power(1, false), true);
        c.due("power(1, false)", x.power(1, false), false);
        x.put(2, 1);
        x.put(1, 1);
        c.due("deliver(0)", x.deliver(0), true);
        c.due("flights()", x.flights(), 1);
        Check.settle(x);
        c.answer(x, 1, 0, 0, 0, 0);
        c.answer(x, 2, 204, 0, 0, 0);
        c.due("version(2)", x.version(2), 0);
        c.due("power(1, true)", x.power(1, true), true);
        Check.ticks(x, 4);
        x.copy(0);
        x.deliver(0);
        c.due("version(2)", x.version(2), 2);
        x.power(1, false);
        x.power(1, true);
        c.due("version(2)", x.version(2), 2);
        x.deliver(0);
        c.due("version(2) behind the same number", x.version(2), 2);
        c.flight(x, 0, 5, 1, 204, 0);
        x.power(1, false);
        x.deliver(0);
        c.answer(x, 1, 204, 0, 0, 0);
    }
}
