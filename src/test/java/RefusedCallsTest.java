import java.util.ArrayList;
import java.util.LinkedHashMap;
import java.util.List;
import java.util.Map;
import java.util.function.Supplier;
import java.util.function.ToLongFunction;

/**
 * "A call that is refused changes nothing." Every refused call is made on one of two objects that are alike, in
 * several states; both must then show the same, at once and after further calls that use draft, time and numbers.
 */
public final class RefusedCallsTest {
    private static final int LEAST = Integer.MIN_VALUE;
    private static final int GREATEST = Integer.MAX_VALUE;
    private static final int MOST_REQUESTS = 10;

    private record Refused(String call, long due, ToLongFunction<FrontCache> on) {
    }

    public static void main(String[] args) {
        Check c = new Check("RefusedCallsTest");
        Map<String, Supplier<FrontCache>> states = states();
        for (String state : states.keySet()) {
            for (Refused refused : refusedEverywhere()) {
                changesNothing(c, state, states.get(state), refused);
            }
        }
        changesNothing(c, "crowded", states.get("crowded"), refused("type('a') of 40", 0, x -> bit(x.type('a'))));
        for (int k = 0; k < 16; k++) {
            int copied = k;
            changesNothing(c, "crowded", states.get("crowded"),
                refused("copy(" + k + ") of 16", 0, x -> bit(x.copy(copied))));
        }
        changesNothing(c, "waiting", states.get("waiting"),
            refused("power(1, false) of a stopped one", 0, x -> bit(x.power(1, false))));
        changesNothing(c, "down", states.get("down"),
            refused("waiting(2) of a DOWN one", -1, x -> x.waiting(2)));
        changesNothing(c, "gone", states.get("gone"), refused("answer(1, 0) of 17", -1, x -> x.answer(1, 0)));
        c.end();
    }

    private static long bit(boolean answer) {
        return answer ? 1 : 0;
    }

    private static Refused refused(String call, long due, ToLongFunction<FrontCache> on) {
        return new Refused(call, due, on);
    }

    private static Map<String, Supplier<FrontCache>> states() {
        Map<String, Supplier<FrontCache>> states = new LinkedHashMap<>();
        states.put("new", () -> new FrontCache(5));
        states.put("typed", RefusedCallsTest::typed);
        states.put("stored", RefusedCallsTest::stored);
        states.put("waiting", RefusedCallsTest::waiting);
        states.put("crowded", RefusedCallsTest::crowded);
        states.put("down", RefusedCallsTest::down);
        states.put("gone", RefusedCallsTest::gone);
        return states;
    }

    private static FrontCache typed() {
        FrontCache x = new FrontCache(12);
        Check.type(x, "min-fresh=3,max-age=6");
        return x;
    }

    /** Three entries, one of which is being confirmed, and a draft. */
    private static FrontCache stored() {
        FrontCache x = new FrontCache(12);
        Check.publish(x, "max-age=9", 1, 2, true);
        Check.load(x, 1, 0);
        Check.load(x, 1, 1);
        Check.keep(x, 2, 3);
        x.tick();
        Check.get(x, "no-cache", 1, 0, 4);
        x.deliver(0);
        Check.type(x, "max-age");
        return x;
    }

    /** Four wait at origin 0, three ticks old; two at origin 1, which is stopped. */
    private static FrontCache waiting() {
        FrontCache x = new FrontCache(12);
        x.publish(3, 1, false);
        x.power(1, false);
        x.put(1, 1);
        x.get(3, 2, 0);
        x.delete(3);
        x.put(3, 2);
        x.put(2, 1);
        x.put(4, 1);
        Check.ticks(x, 3);
        return x;
    }

    /** Sixteen messages are under way, and the draft has 40 characters. */
    private static FrontCache crowded() {
        FrontCache x = new FrontCache(12);
        Check.publish(x, "max-age=9", 1, 1, false);
        x.get(1, 0, 0);
        x.put(2, 1);
        x.deliver(1);
        Check.crowd(x);
        Check.type(x, "max-age=5, no-cache, a, b, c, d, e, f, g");
        return x;
    }

    /** Origin 2 was marked DOWN 7 ticks ago, and a PUT is under work at origin 0 since then. */
    private static FrontCache down() {
        FrontCache x = new FrontCache(12);
        Check.bringDown(x, 6);
        x.put(1, 1);
        Check.loseAll(x);
        Check.ticks(x, 7);
        return x;
    }

    /** Seventeen requests were made: the first answer is not kept. */
    private static FrontCache gone() {
        FrontCache x = new FrontCache(12);
        for (int i = 0; i < 17; i++) {
            x.delete(1);
        }
        return x;
    }

    private static List<Refused> refusedEverywhere() {
        List<Refused> all = new ArrayList<>();
        for (int code : new int[] {0, 31, 127, 255, 65535}) {
            all.add(refused("type((char) " + code + ")", 0, x -> bit(x.type((char) code))));
        }
        for (int path : new int[] {-1, 8, LEAST, GREATEST}) {
            all.add(refused("publish(" + path + ", 1, true)", -1, x -> x.publish(path, 1, true)));
            all.add(refused("withdraw(" + path + ")", 0, x -> bit(x.withdraw(path))));
            all.add(refused("get(" + path + ", 0, 0)", -1, x -> x.get(path, 0, 0)));
            all.add(refused("put(" + path + ", 1)", -1, x -> x.put(path, 1)));
            all.add(refused("delete(" + path + ")", -1, x -> x.delete(path)));
            all.add(refused("owner(" + path + ")", -1, x -> x.owner(path)));
            all.add(refused("version(" + path + ")", 0, x -> x.version(path)));
        }
        for (int size : new int[] {0, 10, LEAST, GREATEST}) {
            all.add(refused("publish(1, " + size + ", false)", -1, x -> x.publish(1, size, false)));
            all.add(refused("put(1, " + size + ")", -1, x -> x.put(1, size)));
        }
        for (int variant : new int[] {-1, 4, LEAST, GREATEST}) {
            all.add(refused("get(1, " + variant + ", 0)", -1, x -> x.get(1, variant, 0)));
        }
        for (int tag : new int[] {-1, LEAST}) {
            all.add(refused("get(1, 0, " + tag + ")", -1, x -> x.get(1, 0, tag)));
        }
        all.add(refused("withdraw(5) of an absent one", 0, x -> bit(x.withdraw(5))));
        all.add(refused("version(5) of an absent one", 0, x -> x.version(5)));
        all.addAll(refusedMessages());
        all.addAll(refusedLooks());
        return all;
    }

    private static List<Refused> refusedMessages() {
        List<Refused> all = new ArrayList<>();
        for (int k : new int[] {-1, 16, LEAST, GREATEST}) {
            all.add(refused("deliver(" + k + ")", 0, x -> bit(x.deliver(k))));
            all.add(refused("lose(" + k + ")", 0, x -> bit(x.lose(k))));
            all.add(refused("copy(" + k + ")", 0, x -> bit(x.copy(k))));
            all.add(refused("flight(" + k + ", 0)", -1, x -> x.flight(k, 0)));
        }
        all.add(refused("deliver(flights())", 0, x -> bit(x.deliver(x.flights()))));
        all.add(refused("lose(flights())", 0, x -> bit(x.lose(x.flights()))));
        all.add(refused("copy(flights())", 0, x -> bit(x.copy(x.flights()))));
        all.add(refused("flight(flights(), 0)", -1, x -> x.flight(x.flights(), 0)));
        return all;
    }

    private static List<Refused> refusedLooks() {
        List<Refused> all = new ArrayList<>();
        for (int origin : new int[] {-1, 3, LEAST, GREATEST}) {
            all.add(refused("power(" + origin + ", false)", 0, x -> bit(x.power(origin, false))));
            all.add(refused("power(" + origin + ", true)", 0, x -> bit(x.power(origin, true))));
            all.add(refused("waiting(" + origin + ")", -1, x -> x.waiting(origin)));
        }
        all.add(refused("power(2, true) of a running one", 0, x -> bit(x.power(2, true))));
        for (int request : new int[] {-1, 0, 18, LEAST, GREATEST}) {
            all.add(refused("answer(" + request + ", 0)", -1, x -> x.answer(request, 0)));
        }
        for (int w : new int[] {-1, 6, LEAST, GREATEST}) {
            all.add(refused("answer(1, " + w + ")", -1, x -> x.answer(1, w)));
            all.add(refused("flight(0, " + w + ")", -1, x -> x.flight(0, w)));
            all.add(refused("entry(0, " + w + ")", -1, x -> x.entry(0, w)));
        }
        all.add(refused("answer(1, 4)", -1, x -> x.answer(1, 4)));
        all.add(refused("flight(0, 4)", -1, x -> x.flight(0, 4)));
        for (int k : new int[] {-1, 40, LEAST, GREATEST}) {
            all.add(refused("entry(" + k + ", 0)", -1, x -> x.entry(k, 0)));
        }
        all.add(refused("entry(entries(), 0)", -1, x -> x.entry(x.entries(), 0)));
        return all;
    }

    private static void changesNothing(Check c, String state, Supplier<FrontCache> made, Refused refused) {
        String what = refused.call + " in state '" + state + "'";
        FrontCache seen = made.get();
        c.due(what, refused.on.applyAsLong(seen), refused.due);
        c.due("what is seen behind " + what, Look.at(seen, MOST_REQUESTS), Look.at(made.get(), MOST_REQUESTS));
        FrontCache used = made.get();
        refused.on.applyAsLong(used);
        refused.on.applyAsLong(used);
        c.due("what comes behind " + what, goOn(used), goOn(made.get()));
    }

    /** Calls that show what cannot be looked at: draft, time, numbers, and since when something waits. */
    private static String goOn(FrontCache x) {
        StringBuilder text = new StringBuilder();
        text.append(" typed ").append(x.type(','));
        text.append(" published ").append(x.publish(3, 2, true));
        int last = x.get(3, 1, 0);
        text.append(" made ").append(last);
        text.append(' ').append(x.put(2, 1)).append(' ').append(x.delete(6));
        for (int i = 0; i < 8; i++) {
            text.append(" at ").append(x.tick()).append(": ").append(x.flights());
            for (int origin = 0; origin < 3; origin++) {
                text.append('/').append(x.waiting(origin));
            }
        }
        for (int i = 0; i < 40 && x.deliver(0); i++) {
            text.append(" delivered");
        }
        Check.load(x, 3, 1);
        return text.append(Look.at(x, last + 3)).toString();
    }
}
