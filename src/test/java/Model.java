import java.util.ArrayList;
import java.util.HashMap;
import java.util.LinkedHashMap;
import java.util.List;
import java.util.Map;
import java.util.regex.Matcher;
import java.util.regex.Pattern;

/** The document once more, sentence by sentence and without a thought for speed, to compare random runs with. */
final class Model {
    private static final Pattern DIRECTIVE = Pattern.compile("([a-z-]+)(?:=([0-9]{1,5}))?");

    /** What an owner has at a path, and equally a copy of it that is stored or under way. */
    private static final class Thing {
        int path;
        int version;
        int size;
        boolean varies;
        int variant;
        String control = "";
        int date;

        Thing copyFor(int wanted, int time) {
            Thing t = new Thing();
            t.path = path;
            t.version = version;
            t.size = size;
            t.varies = varies;
            t.variant = wanted;
            t.control = control;
            t.date = time;
            return t;
        }

        int tag() {
            return varies ? 4 * version + variant : 4 * version;
        }
    }

    private static final class Ask {
        String kind;
        int path;
        int variant;
        int size;
        int known;
        String control = "";
        Thing confirm;
        int number;
        int since;
        final int[] answer = new int[4];
    }

    private static final class Mail {
        int origin;
        boolean back;
        int number;
        int what;
        int tag;
        Ask ask;
        Thing thing;
    }

    private final int capacity;
    private int time;
    private int versions;
    private String draft = "";
    private final List<Ask> asks = new ArrayList<>();
    private final List<Thing> store = new ArrayList<>();
    private final List<Mail> mails = new ArrayList<>();
    private final Map<Integer, Thing> things = new HashMap<>();
    private final List<List<Ask>> queues = List.of(new ArrayList<>(), new ArrayList<>(), new ArrayList<>());
    private final int[] numbers = new int[3];
    private final int[] fails = new int[3];
    private final Integer[] downAt = new Integer[3];
    private final boolean[] stopped = new boolean[3];
    private final Mail[] lastSaid = new Mail[3];

    Model(int capacity) {
        this.capacity = capacity < 1 || capacity > 40 ? 12 : capacity;
    }

    private static Map<String, Integer> read(String control) {
        Map<String, Integer> all = new LinkedHashMap<>();
        for (String element : control.split(",", -1)) {
            Matcher m = DIRECTIVE.matcher(element.replaceAll("^ +| +$", ""));
            if (m.matches()) {
                all.putIfAbsent(m.group(1), m.group(2) == null ? 0 : Integer.parseInt(m.group(2)));
            }
        }
        return all;
    }

    private static Integer lifetime(String control) {
        Map<String, Integer> all = read(control);
        return all.containsKey("s-maxage") ? all.get("s-maxage") : all.get("max-age");
    }

    private static boolean has(String control, String name) {
        return read(control).containsKey(name);
    }

    private static boolean keepable(String control) {
        return lifetime(control) != null && !has(control, "no-store") && !has(control, "private");
    }

    private static boolean matches(Thing t, int path, int variant) {
        return t.path == path && (!t.varies || t.variant == variant);
    }

    boolean type(char c) {
        if (c < ' ' || c > '~' || draft.length() == 40) {
            return false;
        }
        draft += c;
        return true;
    }

    int publish(int path, int size, boolean varies) {
        if (path < 0 || path > 7 || size < 1 || size > 9) {
            return -1;
        }
        Thing t = new Thing();
        t.path = path;
        t.size = size;
        t.varies = varies;
        t.control = draft;
        t.version = ++versions;
        things.put(path, t);
        draft = "";
        return versions;
    }

    boolean withdraw(int path) {
        return things.remove(path) != null;
    }

    int get(int path, int variant, int tag) {
        if (path < 0 || path > 7 || variant < 0 || variant > 3 || tag < 0) {
            return -1;
        }
        Ask a = ask("GET", path);
        a.variant = variant;
        a.known = tag;
        a.control = draft;
        draft = "";
        for (Thing t : store) {
            if (matches(t, path, variant)) {
                a.confirm = t;
            }
        }
        if (a.confirm != null && hits(a.confirm, read(a.control))) {
            say(a, a.confirm, 1);
            store.remove(a.confirm);
            store.add(a.confirm);
        } else if (has(a.control, "only-if-cached")) {
            a.answer[0] = 504;
        } else {
            pass(a);
        }
        return asks.size();
    }

    private boolean hits(Thing t, Map<String, Integer> wanted) {
        Integer life = lifetime(t.control);
        int age = time - t.date;
        return !has(t.control, "no-cache") && !wanted.containsKey("no-cache")
            && life != null && age < life
            && age <= wanted.getOrDefault("max-age", Integer.MAX_VALUE)
            && age + wanted.getOrDefault("min-fresh", 0) <= life;
    }

    int put(int path, int size) {
        if (path < 0 || path > 7 || size < 1 || size > 9) {
            return -1;
        }
        Ask a = ask("PUT", path);
        a.size = size;
        pass(a);
        return asks.size();
    }

    int delete(int path) {
        if (path < 0 || path > 7) {
            return -1;
        }
        pass(ask("DELETE", path));
        return asks.size();
    }

    private Ask ask(String kind, int path) {
        Ask a = new Ask();
        a.kind = kind;
        a.path = path;
        asks.add(a);
        return a;
    }

    private void say(Ask a, Thing t, int way) {
        a.answer[0] = t.tag() == a.known ? 304 : 200;
        a.answer[1] = t.tag();
        a.answer[2] = time - t.date;
        a.answer[3] = way;
    }

    private void pass(Ask a) {
        int o = owner(a.path);
        if (downAt[o] != null) {
            a.answer[0] = 502;
        } else if (queues.get(o).size() == 4) {
            a.answer[0] = 503;
        } else {
            queues.get(o).add(a);
            work(o);
        }
    }

    /** Whoever is first now and has no number yet gets one. */
    private void work(int o) {
        if (!queues.get(o).isEmpty() && queues.get(o).get(0).number == 0) {
            Ask a = queues.get(o).get(0);
            a.number = ++numbers[o];
            a.since = time;
            mail(o, a);
        }
    }

    private void mail(int o, Ask a) {
        Mail m = new Mail();
        m.origin = o;
        m.ask = a;
        m.number = a == null ? 0 : a.number;
        m.what = a == null ? 0 : List.of("", "GET", "PUT", "DELETE").indexOf(a.kind);
        m.tag = a == null || a.confirm == null ? 0 : a.confirm.tag();
        post(m);
    }

    private void post(Mail m) {
        if (mails.size() < 16) {
            mails.add(m);
        }
    }

    boolean deliver(int k) {
        if (k < 0 || k >= mails.size()) {
            return false;
        }
        Mail m = mails.remove(k);
        if (m.back) {
            arrive(m);
        } else if (!stopped[m.origin]) {
            serve(m);
        }
        return true;
    }

    private void serve(Mail m) {
        int last = lastSaid[m.origin] == null ? 0 : lastSaid[m.origin].number;
        if (m.number != 0 && m.number < last) {
            return;
        }
        if (m.number != 0 && m.number == last) {
            post(lastSaid[m.origin]);
            return;
        }
        Mail reply = new Mail();
        reply.origin = m.origin;
        reply.back = true;
        reply.number = m.number;
        if (m.number != 0) {
            fill(reply, m.ask);
            lastSaid[m.origin] = reply;
        }
        post(reply);
    }

    private void fill(Mail reply, Ask a) {
        Thing t = things.get(a.path);
        if (a.kind.equals("PUT")) {
            reply.what = 204;
            Thing made = t == null ? new Thing() : t.copyFor(0, 0);
            made.path = a.path;
            made.version = ++versions;
            made.size = a.size;
            things.put(a.path, made);
        } else if (t == null) {
            reply.what = 404;
        } else if (a.kind.equals("DELETE")) {
            reply.what = 204;
            things.remove(a.path);
        } else {
            reply.thing = t.copyFor(a.variant, time);
            reply.tag = reply.thing.tag();
            reply.what = a.confirm != null && a.confirm.tag() == reply.tag ? 304 : 200;
        }
    }

    private void arrive(Mail m) {
        int o = m.origin;
        if (m.number == 0) {
            fails[o] = 0;
            downAt[o] = null;
            return;
        }
        List<Ask> queue = queues.get(o);
        if (queue.isEmpty() || queue.get(0).number != m.number) {
            return;
        }
        fails[o] = 0;
        Ask a = queue.remove(0);
        if (m.what == 200) {
            say(a, m.thing, 2);
            if (keepable(m.thing.control) && !has(a.control, "no-store") && m.thing.size <= capacity) {
                keep(m.thing.copyFor(a.variant, m.thing.date));
            }
        } else if (m.what == 304) {
            a.confirm.control = m.thing.control;
            a.confirm.date = m.thing.date;
            say(a, a.confirm, 3);
            if (store.remove(a.confirm) && keepable(a.confirm.control)) {
                store.add(a.confirm);
            }
        } else {
            a.answer[0] = m.what;
            store.removeIf(t -> m.what == 204 && t.path == a.path
                || a.kind.equals("GET") && matches(t, a.path, a.variant));
        }
        work(o);
    }

    private void keep(Thing fresh) {
        store.removeIf(t -> matches(t, fresh.path, fresh.variant) || !fresh.varies && t.path == fresh.path);
        while (store.stream().mapToInt(t -> t.size).sum() + fresh.size > capacity) {
            store.remove(0);
        }
        store.add(fresh);
    }

    boolean lose(int k) {
        return k >= 0 && k < mails.size() && mails.remove(k) != null;
    }

    boolean copy(int k) {
        return k >= 0 && k < mails.size() && mails.size() < 16 && mails.add(mails.get(k));
    }

    int tick() {
        time++;
        for (int o = 0; o < 3; o++) {
            if (downAt[o] != null) {
                if ((time - downAt[o]) % 10 == 0) {
                    mail(o, null);
                }
            } else if (!queues.get(o).isEmpty()) {
                due(o, queues.get(o).get(0));
            }
        }
        return time;
    }

    private void due(int o, Ask first) {
        int later = time - first.since;
        if (later == 4 || later == 8) {
            mail(o, first);
        }
        if (later != 12) {
            return;
        }
        first.answer[0] = 504;
        queues.get(o).remove(0);
        if (++fails[o] == 2) {
            downAt[o] = time;
            for (Ask a : queues.get(o)) {
                a.answer[0] = 502;
            }
            queues.get(o).clear();
        }
        work(o);
    }

    boolean power(int origin, boolean on) {
        if (origin < 0 || origin > 2 || stopped[origin] == !on) {
            return false;
        }
        stopped[origin] = !on;
        return true;
    }

    int answer(int request, int w) {
        if (request < 1 || request > asks.size() || asks.size() - request >= 16 || w < 0 || w > 3) {
            return -1;
        }
        return asks.get(request - 1).answer[w];
    }

    int flights() {
        return mails.size();
    }

    int flight(int k, int w) {
        if (k < 0 || k >= mails.size() || w < 0 || w > 3) {
            return -1;
        }
        Mail m = mails.get(k);
        return new int[] {m.back ? 4 + m.origin : m.origin, m.number, m.what, m.tag}[w];
    }

    int entries() {
        return store.size();
    }

    int entry(int k, int w) {
        if (k < 0 || k >= store.size() || w < 0 || w > 5) {
            return -1;
        }
        Thing t = store.get(store.size() - 1 - k);
        return new int[] {t.path, t.tag(), time - t.date, lifetime(t.control), t.size, t.varies ? t.variant : -2}[w];
    }

    int owner(int path) {
        if (path < 0 || path > 7) {
            return -1;
        }
        int best = 0;
        for (int o = 1; o < 3; o++) {
            if (weight(path, o) > weight(path, best)) {
                best = o;
            }
        }
        return best;
    }

    private static int weight(int p, int o) {
        return (7 * p + 11 * o + 5 * p * o + 3) % 13;
    }

    int waiting(int origin) {
        return origin < 0 || origin > 2 || downAt[origin] != null ? -1 : queues.get(origin).size();
    }

    int version(int path) {
        return things.containsKey(path) ? things.get(path).version : 0;
    }
}
