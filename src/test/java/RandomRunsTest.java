import java.util.Random;

/** Compares runs of calls, drawn from fixed seeds, with the model; all promises. */
public final class RandomRunsTest {
    private static final int RUNS = 4000;
    private static final int CALLS = 512;
    private static final int LAST_LOOKS = 60;
    private static final String[] CONTROLS = {
        "", "", "", "max-age=3", "max-age=9", "max-age=40", "s-maxage=20,max-age=1", "max-age=30, no-cache",
        "max-age=30,no-store", "private, max-age=9", "no-cache", "no-store", "only-if-cached", "min-fresh=3",
        "max-age=0", "max-age", "max-age=2,min-fresh=1", "max-age=5 , only-if-cached", "s-maxage", "no-cache=1",
        "max-age= 4", "max-age=x,max-age=12", "max-age=99999", "max-age=100000", "private=,max-age=25",
        "max-age=6,max-age=2", "s-maxage=1,s-maxage=9", ",max-age=7", " max-age=7 ", "min-fresh=2,min-fresh=9",
        "                               max-age=8", "max-age=8, a, b, c, d, e, f, g, private"};
    private static final int[] CAPACITIES = {-1, 0, 1, 2, 9, 10, 12, 13, 39, 40, 41, 42};
    private static final int[] CHARACTERS = {0, 10, 31, 32, 44, 61, 126, 127, 128, 255, 256, 65535};
    private static final String[] LASTING = {"max-age=4", "max-age=9", "s-maxage=40", "no-cache,max-age=9"};
    private static final String LETTERS = "max-ages=0123456789, no-cachestore";

    private final Check check;
    private final int seed;
    private final Random random;
    private final FrontCache real;
    private final Model model;
    private final int paths;
    private final boolean rough;
    private final int largest;
    private int calls;
    private int lastRequest;

    private RandomRunsTest(Check check, int seed) {
        this.check = check;
        this.seed = seed;
        random = new Random(seed);
        boolean atAnEdge = random.nextInt(3) == 0;
        int capacity = atAnEdge ? CAPACITIES[random.nextInt(CAPACITIES.length)] : 3 + random.nextInt(15);
        real = new FrontCache(capacity);
        model = new Model(capacity);
        paths = 1 + random.nextInt(8);
        rough = random.nextInt(3) == 0;
        largest = capacity > 18 || random.nextInt(3) == 0 ? 9 : 3;
    }

    public static void main(String[] args) {
        int runs = args.length > 0 ? Integer.parseInt(args[0]) : RUNS;
        Check check = new Check("RandomRunsTest");
        for (int seed = 1; seed <= runs; seed++) {
            new RandomRunsTest(check, seed).run();
        }
        check.end();
    }

    private void due(String call, long got, long want) {
        calls++;
        check.due("run " + seed + ", call " + calls + ": " + call, got, want);
    }

    private void due(String call, boolean got, boolean want) {
        due(call, got ? 1 : 0, want ? 1 : 0);
    }

    private void made(String call, int got, int want) {
        due(call, got, want);
        lastRequest = Math.max(lastRequest, want);
    }

    private void run() {
        while (calls < CALLS - LAST_LOOKS) {
            act();
            look();
        }
        while (calls < CALLS) {
            look();
        }
    }

    /** Mostly a number that is allowed, now and then one that is not. */
    private int about(int least, int most) {
        return random.nextInt(25) == 0 ? (random.nextBoolean() ? least - 1 : most + 1)
            : least + random.nextInt(Math.max(1, most - least + 1));
    }

    private int path() {
        return about(0, paths - 1);
    }

    private void typeControl() {
        String text = CONTROLS[random.nextInt(CONTROLS.length)];
        if (random.nextInt(12) == 0) {
            StringBuilder odd = new StringBuilder(text);
            odd.insert(random.nextInt(text.length() + 1), LETTERS.charAt(random.nextInt(LETTERS.length())));
            text = odd.toString();
        }
        typeText(text);
        if (random.nextInt(40) == 0) {
            type((char) CHARACTERS[random.nextInt(CHARACTERS.length)]);
        }
    }

    private void typeText(String text) {
        for (int i = 0; i < text.length() && calls < CALLS - LAST_LOOKS; i++) {
            type(text.charAt(i));
        }
    }

    private void type(char c) {
        due("type((char) " + (int) c + ")", real.type(c), model.type(c));
    }

    private void act() {
        int what = random.nextInt(100);
        if (what < 6) {
            if (random.nextInt(3) != 0) {
                typeText(LASTING[random.nextInt(LASTING.length)]);
            } else {
                typeControl();
            }
            publish();
        } else if (what < 30) {
            if (random.nextInt(4) == 0) {
                typeControl();
            }
            get();
        } else if (what < 34) {
            change();
        } else if (what < 36) {
            int path = path();
            due("withdraw(" + path + ")", real.withdraw(path), model.withdraw(path));
        } else if (what < 38) {
            int origin = about(0, 2);
            boolean on = random.nextInt(rough ? 2 : 5) != 0;
            due("power(" + origin + ", " + on + ")", real.power(origin, on), model.power(origin, on));
        } else if (what < 50) {
            ticks(rough && random.nextInt(4) == 0 ? 12 : 1);
        } else if (rough || random.nextInt(3) == 0) {
            move();
        } else {
            deliverSome();
        }
    }

    private void ticks(int n) {
        for (int i = 0; i < n; i++) {
            due("tick()", real.tick(), model.tick());
        }
    }

    private void deliverSome() {
        for (int i = random.nextInt(4); i >= 0; i--) {
            due("deliver(0)", real.deliver(0), model.deliver(0));
        }
    }

    private void publish() {
        int path = path();
        int size = random.nextInt(3) == 0 ? about(1, 9) : about(1, largest);
        boolean varies = random.nextBoolean();
        due("publish(" + path + ", " + size + ", " + varies + ")",
            real.publish(path, size, varies), model.publish(path, size, varies));
    }

    private void get() {
        int path = path();
        int variant = about(0, 3);
        int tag = random.nextInt(3) == 0 ? 4 * model.version(path) + random.nextInt(4) : about(0, 60);
        made("get(" + path + ", " + variant + ", " + tag + ")",
            real.get(path, variant, tag), model.get(path, variant, tag));
    }

    private void change() {
        int path = path();
        int size = about(1, 9);
        if (random.nextBoolean()) {
            made("put(" + path + ", " + size + ")", real.put(path, size), model.put(path, size));
        } else {
            made("delete(" + path + ")", real.delete(path), model.delete(path));
        }
    }

    private void move() {
        int k = random.nextBoolean() ? 0 : about(0, model.flights() - 1);
        int how = random.nextInt(40);
        if (how < (rough ? 12 : 2)) {
            due("lose(" + k + ")", real.lose(k), model.lose(k));
        } else if (how < 18) {
            due("copy(" + k + ")", real.copy(k), model.copy(k));
        } else {
            due("deliver(" + k + ")", real.deliver(k), model.deliver(k));
        }
    }

    private void look() {
        int k = about(0, model.flights() - 1);
        int e = about(0, model.entries() - 1);
        int w = about(0, 3);
        int origin = about(0, 2);
        int path = about(0, 7);
        int request = lastRequest - about(0, random.nextBoolean() ? 3 : 15);
        switch (random.nextInt(11)) {
            case 0 -> due("flight(" + k + ", " + w + ")", real.flight(k, w), model.flight(k, w));
            case 1 -> due("flights()", real.flights(), model.flights());
            case 2 -> due("waiting(" + origin + ")", real.waiting(origin), model.waiting(origin));
            case 3 -> due("version(" + path + ")", real.version(path), model.version(path));
            case 4 -> due("entries()", real.entries(), model.entries());
            case 5, 6 -> {
                int v = about(0, 5);
                due("entry(" + e + ", " + v + ")", real.entry(e, v), model.entry(e, v));
            }
            case 7 -> due("owner(" + path + ")", real.owner(path), model.owner(path));
            default -> due("answer(" + request + ", " + w + ")", real.answer(request, w), model.answer(request, w));
        }
    }
}
