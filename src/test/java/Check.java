/** Counts the answers that are not as due, and drives an object through the calls that most tests need. */
final class Check {
    private final String name;
    private int asked;
    private int wrong;

    Check(String name) {
        this.name = name;
    }

    void due(String call, long got, long want) {
        asked++;
        if (got != want) {
            wrong++;
            System.out.println(name + ": " + call + " answered " + got + ", due is " + want);
        }
    }

    void due(String call, boolean got, boolean want) {
        due(call, got ? 1 : 0, want ? 1 : 0);
    }

    void due(String what, String got, String want) {
        asked++;
        if (!got.equals(want)) {
            wrong++;
            System.out.println(name + ": " + what + " showed" + got + "\n    due is" + want);
        }
    }

    /** All four numbers of the answer to a request. */
    void answer(FrontCache x, int request, int status, int tag, int age, int way) {
        due("answer(" + request + ", 0)", x.answer(request, 0), status);
        due("answer(" + request + ", 1)", x.answer(request, 1), tag);
        due("answer(" + request + ", 2)", x.answer(request, 2), age);
        due("answer(" + request + ", 3)", x.answer(request, 3), way);
    }

    /** All four numbers of a message under way. */
    void flight(FrontCache x, int k, int where, int number, int what, int tag) {
        due("flight(" + k + ", 0)", x.flight(k, 0), where);
        due("flight(" + k + ", 1)", x.flight(k, 1), number);
        due("flight(" + k + ", 2)", x.flight(k, 2), what);
        due("flight(" + k + ", 3)", x.flight(k, 3), tag);
    }

    /** The entries from the latest used on, each told by its tag. */
    void entryTags(FrontCache x, int... tags) {
        due("entries()", x.entries(), tags.length);
        for (int k = 0; k < tags.length; k++) {
            due("entry(" + k + ", 1)", x.entry(k, 1), tags[k]);
        }
    }

    /** All six numbers of an entry. */
    void entry(FrontCache x, int k, int path, int tag, int age, int lifetime, int size, int variant) {
        int[] due = {path, tag, age, lifetime, size, variant};
        for (int w = 0; w < due.length; w++) {
            due("entry(" + k + ", " + w + ")", x.entry(k, w), due[w]);
        }
    }

    void end() {
        System.out.println(name + ": " + asked + " answers, " + wrong + " not as due");
        if (wrong != 0) {
            System.exit(1);
        }
    }

    static void type(FrontCache x, String text) {
        for (int i = 0; i < text.length(); i++) {
            x.type(text.charAt(i));
        }
    }

    static int publish(FrontCache x, String control, int path, int size, boolean varies) {
        type(x, control);
        return x.publish(path, size, varies);
    }

    static int get(FrontCache x, String control, int path, int variant, int tag) {
        type(x, control);
        return x.get(path, variant, tag);
    }

    /** Delivers all that is under way, and what that brings about, the oldest first. */
    static void settle(FrontCache x) {
        for (int i = 0; i < 100 && x.flights() > 0; i++) {
            x.deliver(0);
        }
    }

    static void loseAll(FrontCache x) {
        while (x.flights() > 0) {
            x.lose(0);
        }
    }

    static void ticks(FrontCache x, int n) {
        for (int i = 0; i < n; i++) {
            x.tick();
        }
    }

    /** Copies the first message until 16 are under way. */
    static void crowd(FrontCache x) {
        for (int i = 0; i < 16 && x.flights() < 16; i++) {
            x.copy(0);
        }
    }

    /** Publishes a resource that may be kept for long, and stores it. */
    static void keep(FrontCache x, int path, int size) {
        publish(x, "max-age=99", path, size, false);
        load(x, path, 0);
    }

    /** Gets a path with an empty control. */
    static int load(FrontCache x, int path, int variant) {
        int request = x.get(path, variant, 0);
        settle(x);
        return request;
    }

    /** Gets a path from its owner, with a control so that the store is not asked. */
    static int fetch(FrontCache x, int path, int variant) {
        int request = get(x, "no-cache", path, variant, 0);
        settle(x);
        return request;
    }

    /** Lets two requests in a row be given up at the owner of a path, which is marked DOWN by that. */
    static void bringDown(FrontCache x, int path) {
        x.delete(path);
        x.delete(path);
        for (int i = 0; i < 24; i++) {
            x.tick();
            loseAll(x);
        }
    }
}
