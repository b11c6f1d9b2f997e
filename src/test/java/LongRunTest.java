/** "An object is used for at most 512 calls": what grows or goes round holds up to the last of them. */
public final class LongRunTest {
    private static final int CALLS = 512;

    public static void main(String[] args) {
        Check c = new Check("LongRunTest");
        versions(c);
        requests(c);
        answersGoRound(c);
        numbersOfAConnection(c);
        messagesGoRound(c);
        entriesComeAndGo(c);
        theDraftGoesRound(c);
        powerGoesOnAndOff(c);
        probesGoOn(c);
        c.end();
    }

    private static void versions(Check c) {
        FrontCache x = new FrontCache(12);
        for (int i = 1; i <= CALLS; i++) {
            c.due("publish", x.publish(i % 8, 1 + i % 9, i % 2 == 0), i);
        }
    }

    private static void requests(Check c) {
        FrontCache x = new FrontCache(12);
        for (int i = 1; i <= CALLS; i++) {
            int path = i % 8;
            c.due("request", i % 3 == 0 ? x.get(path, i % 4, i) : i % 3 == 1 ? x.put(path, 9) : x.delete(path), i);
        }
    }

    private static void answersGoRound(Check c) {
        FrontCache x = new FrontCache(12);
        for (int i = 0; i < 4; i++) {
            x.put(1, 1);
        }
        for (int request = 5; request < 250; request++) {
            x.delete(3);
            int asked = request - request % 17;
            int due = request - asked >= 16 || asked == 0 ? -1 : asked <= 4 ? 0 : 503;
            c.due("answer(" + asked + ", 0) of " + request, x.answer(asked, 0), due);
        }
    }

    private static void numbersOfAConnection(Check c) {
        FrontCache x = new FrontCache(12);
        for (int number = 1; number <= 100; number++) {
            x.put(1, 1);
            c.due("flight(0, 1)", x.flight(0, 1), number);
            x.deliver(0);
            c.due("flight(0, 1)", x.flight(0, 1), number);
            x.deliver(0);
        }
        c.due("version(1)", x.version(1), 100);
        c.answer(x, 100, 204, 0, 0, 0);
        c.due("answer(85, 0)", x.answer(85, 0), 204);
        c.due("answer(84, 0)", x.answer(84, 0), -1);
    }

    /** Each message of a full row is taken out once from each place. */
    private static void messagesGoRound(Check c) {
        FrontCache x = new FrontCache(12);
        x.put(1, 1);
        Check.crowd(x);
        for (int round = 0; round < 6; round++) {
            for (int k = 0; k < 16; k++) {
                c.due("deliver(" + k + ")", x.deliver(k), true);
                if (x.flights() < 16) {
                    c.due("copy(0)", x.copy(0), true);
                }
            }
        }
        c.due("flights()", x.flights(), 16);
        c.due("version(1)", x.version(1), 1);
        c.answer(x, 1, 204, 0, 0, 0);
    }

    private static void entriesComeAndGo(Check c) {
        FrontCache x = new FrontCache(3);
        for (int path = 0; path < 8; path++) {
            Check.publish(x, "max-age=99999", path, 1, true);
        }
        for (int i = 0; i < 40; i++) {
            Check.load(x, i % 8, i / 8 % 4);
            c.due("entry(0, 0)", x.entry(0, 0), i % 8);
            c.due("entries()", x.entries(), Math.min(3, i + 1));
        }
        c.due("entry(2, 0)", x.entry(2, 0), 5);
    }

    private static void theDraftGoesRound(Check c) {
        FrontCache x = new FrontCache(12);
        for (int round = 1; round <= 12; round++) {
            for (int i = 0; i < 41; i++) {
                c.due("type character " + (i + 1), x.type((char) (32 + i)), i < 40);
            }
            c.due("publish", x.publish(1, 1, false), round);
        }
    }

    private static void powerGoesOnAndOff(Check c) {
        FrontCache x = new FrontCache(12);
        for (int i = 0; i < CALLS / 4; i++) {
            c.due("power(1, false)", x.power(1, false), true);
            c.due("power(1, false)", x.power(1, false), false);
            c.due("power(1, true)", x.power(1, true), true);
            c.due("power(1, true)", x.power(1, true), false);
        }
    }

    /** A DOWN origin gets a probe each 10 ticks as long as it is DOWN. */
    private static void probesGoOn(Check c) {
        FrontCache x = new FrontCache(12);
        Check.bringDown(x, 1);
        for (int probe = 1; probe <= 30; probe++) {
            Check.ticks(x, 9);
            c.due("flights() before probe " + probe, x.flights(), 0);
            x.tick();
            c.due("flights() at probe " + probe, x.flights(), 1);
            x.lose(0);
        }
        c.due("waiting(0)", x.waiting(0), -1);
    }
}
