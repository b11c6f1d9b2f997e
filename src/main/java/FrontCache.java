import java.util.Arrays;

/** A caching front of three origins; the numbered promises it keeps stand in ../shared/DOC.md. */
public final class FrontCache {
    private static final int PATHS = 8;
    private static final int VARIANTS = 4;
    private static final int ORIGINS = 3;
    private static final int LARGEST_SIZE = 9;
    private static final int LARGEST_CAPACITY = 40;
    private static final int USUAL_CAPACITY = 12;
    private static final int KEPT_ANSWERS = 16;
    private static final int NONE = -1;

    private static final int GET = 1;
    private static final int PUT = 2;
    private static final int DELETE = 3;

    private static final int HIT = 1;
    private static final int FETCHED = 2;
    private static final int CONFIRMED = 3;

    private static final int OK = 200;
    private static final int CHANGED = 204;
    private static final int NOT_MODIFIED = 304;
    private static final int NOT_FOUND = 404;
    private static final int ORIGIN_IS_DOWN = 502;
    private static final int TOO_MANY_WAIT = 503;
    private static final int NO_ANSWER = 504;

    private final Draft draft;
    private final Store store;
    private final UnderWay underWay;
    private final Resource absent;
    private final Resource[] resources;
    private final Origin[] origins;
    private final Connection[] connections;
    private final Request[] latestRequests;
    private int time;
    private int lastVersion;
    private int lastRequest;

    public FrontCache(int capacity) {
        draft = new Draft();
        store = new Store(capacity >= 1 && capacity <= LARGEST_CAPACITY ? capacity : USUAL_CAPACITY);
        underWay = new UnderWay();
        absent = new Resource(0, 0, false, new Control());
        resources = new Resource[PATHS];
        for (int path = 0; path < PATHS; path++) {
            resources[path] = absent;
        }
        origins = new Origin[ORIGINS];
        connections = new Connection[ORIGINS];
        for (int origin = 0; origin < ORIGINS; origin++) {
            origins[origin] = new Origin();
            connections[origin] = new Connection(origin);
        }
        latestRequests = new Request[KEPT_ANSWERS];
    }

    public boolean type(char c) {
        return draft.append(c);
    }

    public int publish(int path, int size, boolean varies) {
        if (!isPath(path) || !isSize(size)) {
            return NONE;
        }
        return renew(path, size, varies, draft.takeControl());
    }

    public boolean withdraw(int path) {
        if (!isPath(path) || resources[path].isAbsent()) {
            return false;
        }
        resources[path] = absent;
        return true;
    }

    public int get(int path, int variant, int tag) {
        if (!isPath(path) || variant < 0 || variant >= VARIANTS || tag < 0) {
            return NONE;
        }
        Request request = new Request(nextRequest(), path, variant, tag, draft.takeControl());
        keepRequest(request);
        dealWithGet(request);
        return request.number;
    }

    public int put(int path, int size) {
        if (!isPath(path) || !isSize(size)) {
            return NONE;
        }
        return makeChange(PUT, path, size);
    }

    public int delete(int path) {
        if (!isPath(path)) {
            return NONE;
        }
        return makeChange(DELETE, path, 0);
    }

    public boolean deliver(int k) {
        Message message = underWay.takeOut(k);
        if (message == null) {
            return false;
        }
        if (message.isAnswer) {
            comeToFront(message);
        } else {
            comeToOrigin(message);
        }
        return true;
    }

    public boolean lose(int k) {
        return underWay.takeOut(k) != null;
    }

    public boolean copy(int k) {
        Message message = underWay.at(k);
        return message != null && underWay.send(message);
    }

    public int tick() {
        time++;
        for (int origin = 0; origin < ORIGINS; origin++) {
            connections[origin].doWhatIsDue(time, underWay);
        }
        return time;
    }

    public boolean power(int origin, boolean on) {
        if (!isOrigin(origin) || origins[origin].runs == on) {
            return false;
        }
        origins[origin].runs = on;
        return true;
    }

    public int answer(int request, int w) {
        if (request < 1 || request > lastRequest || request <= lastRequest - KEPT_ANSWERS) {
            return NONE;
        }
        Request kept = latestRequests[slotOf(request)];
        if (kept == null) {
            return NONE;
        }
        switch (w) {
            case 0: return kept.status;
            case 1: return kept.answerTag;
            case 2: return kept.answerAge;
            case 3: return kept.way;
            default: return NONE;
        }
    }

    public int flights() {
        return underWay.count;
    }

    public int flight(int k, int w) {
        Message message = underWay.at(k);
        if (message == null) {
            return NONE;
        }
        switch (w) {
            case 0: return message.isAnswer ? message.origin + 4 : message.origin;
            case 1: return message.number;
            case 2: return message.what;
            case 3: return message.tag;
            default: return NONE;
        }
    }

    public int entries() {
        return store.count;
    }

    public int entry(int k, int w) {
        Entry found = store.usedLatest(k);
        if (found == null) {
            return NONE;
        }
        switch (w) {
            case 0: return found.path;
            case 1: return found.tag;
            case 2: return found.age(time);
            case 3: return found.control.lifetime();
            case 4: return found.resource.size;
            case 5: return found.resource.varies ? found.variant : -2;
            default: return NONE;
        }
    }

    public int owner(int path) {
        return isPath(path) ? ownerOf(path) : NONE;
    }

    public int waiting(int origin) {
        if (!isOrigin(origin) || connections[origin].isDown) {
            return NONE;
        }
        return connections[origin].count;
    }

    public int version(int path) {
        return isPath(path) ? resources[path].version : 0;
    }

    private static boolean isPath(int path) {
        return path >= 0 && path < PATHS;
    }

    private static boolean isOrigin(int origin) {
        return origin >= 0 && origin < ORIGINS;
    }

    private static boolean isSize(int size) {
        return size >= 1 && size <= LARGEST_SIZE;
    }

    private static int ownerOf(int path) {
        int best = 0;
        int bestWeight = -1;
        for (int origin = 0; origin < ORIGINS; origin++) {
            int weight = (7 * path + 11 * origin + 5 * path * origin + 3) % 13;
            if (weight > bestWeight) {
                best = origin;
                bestWeight = weight;
            }
        }
        return best;
    }

    private int renew(int path, int size, boolean varies, Control control) {
        lastVersion++;
        resources[path] = new Resource(lastVersion, size, varies, control);
        return lastVersion;
    }

    private int nextRequest() {
        lastRequest++;
        return lastRequest;
    }

    private static int slotOf(int request) {
        return Math.floorMod(request, KEPT_ANSWERS);
    }

    private void keepRequest(Request request) {
        latestRequests[slotOf(request.number)] = request;
    }

    private int makeChange(int kind, int path, int size) {
        Request request = new Request(nextRequest(), kind, path, size);
        keepRequest(request);
        passOn(request);
        return request.number;
    }

    private void passOn(Request request) {
        connections[ownerOf(request.path)].admit(request, time, underWay);
    }

    private void dealWithGet(Request request) {
        Entry match = store.find(request.path, request.variant);
        if (match != null && match.serves(request.control, time)) {
            store.makeLatest(match);
            request.answerOk(match.tag, match.age(time), HIT);
        } else if (request.control.has(Control.ONLY_IF_CACHED)) {
            request.status = NO_ANSWER;
        } else {
            request.toConfirm = match;
            passOn(request);
        }
    }

    private void comeToOrigin(Message message) {
        Origin origin = origins[message.origin];
        if (!origin.runs) {
            return;
        }
        if (message.request == null) {
            underWay.send(new Message(message, 0));
            return;
        }
        if (message.number > origin.lastNumber) {
            origin.lastNumber = message.number;
            origin.lastAnswer = answerOfOrigin(message, message.request);
        }
        // The same message again, not a new one: its date and tag are those of the first time.
        if (message.number == origin.lastNumber && origin.lastAnswer != null) {
            underWay.send(origin.lastAnswer);
        }
    }

    private Message answerOfOrigin(Message message, Request request) {
        Resource resource = resources[request.path];
        if (request.kind == PUT) {
            renew(request.path, request.size, resource.varies, resource.control);
            return new Message(message, CHANGED);
        }
        if (resource.isAbsent()) {
            return new Message(message, NOT_FOUND);
        }
        if (request.kind == DELETE) {
            resources[request.path] = absent;
            return new Message(message, CHANGED);
        }
        int tag = resource.tagFor(request.variant);
        return new Message(message, message.tag == tag ? NOT_MODIFIED : OK, tag, resource, time);
    }

    private void comeToFront(Message message) {
        Connection connection = connections[message.origin];
        if (message.number == 0) {
            connection.hearProbe();
            return;
        }
        Request request = connection.finish(message.number);
        if (request == null) {
            return;
        }
        if (message.resource != null) {
            settleFound(request, message, message.resource);
        } else {
            settleOther(request, message.what);
        }
        connection.beginNext(time, underWay);
    }

    private void settleFound(Request request, Message message, Resource resource) {
        Entry toConfirm = request.toConfirm;
        if (message.what == NOT_MODIFIED && toConfirm != null) {
            toConfirm.control = resource.control;
            toConfirm.date = message.date;
            request.answerOk(toConfirm.tag, toConfirm.age(time), CONFIRMED);
            store.confirm(toConfirm);
            return;
        }
        request.answerOk(message.tag, time - message.date, FETCHED);
        if (resource.control.allowsStoring() && !request.control.has(Control.NO_STORE)) {
            store.add(new Entry(request.path, request.variant, resource, message.date));
        }
    }

    private void settleOther(Request request, int status) {
        request.status = status;
        if (status == CHANGED) {
            store.removePath(request.path);
        } else if (request.kind == GET) {
            store.removeMatching(request.path, request.variant);
        }
    }

    /** The directives of a control that mean something here; other names are never asked for. */
    private static final class Control {
        static final int NO_CACHE = 0;
        static final int NO_STORE = 1;
        static final int PRIVATE = 2;
        static final int ONLY_IF_CACHED = 3;
        static final int MAX_AGE = 4;
        static final int S_MAXAGE = 5;
        static final int MIN_FRESH = 6;
        static final int NAMES = 7;

        private final int[] numbers;

        Control() {
            numbers = new int[NAMES];
            Arrays.fill(numbers, NONE);
        }

        static String nameOf(int directive) {
            switch (directive) {
                case NO_CACHE: return "no-cache";
                case NO_STORE: return "no-store";
                case PRIVATE: return "private";
                case ONLY_IF_CACHED: return "only-if-cached";
                case MAX_AGE: return "max-age";
                case S_MAXAGE: return "s-maxage";
                default: return "min-fresh";
            }
        }

        void learn(int directive, int number) {
            // Of directives with the same name the first counts.
            if (!has(directive)) {
                numbers[directive] = number;
            }
        }

        boolean has(int directive) {
            return numbers[directive] != NONE;
        }

        int number(int directive) {
            return numbers[directive];
        }

        int lifetime() {
            return has(S_MAXAGE) ? number(S_MAXAGE) : number(MAX_AGE);
        }

        boolean hasLifetime() {
            return lifetime() != NONE;
        }

        boolean allowsStoring() {
            return hasLifetime() && !has(NO_STORE) && !has(PRIVATE);
        }
    }

    /** The text of a control while it is typed. */
    private static final class Draft {
        private static final int LONGEST = 40;
        private static final int MOST_DIGITS = 5;

        private final char[] text = new char[LONGEST];
        private int length;

        boolean append(char c) {
            if (c < 32 || c > 126 || length >= LONGEST) {
                return false;
            }
            text[length] = c;
            length++;
            return true;
        }

        Control takeControl() {
            Control control = new Control();
            int start = 0;
            for (int i = 0; i <= length; i++) {
                if (i == length || text[i] == ',') {
                    readElement(control, start, i);
                    start = i + 1;
                }
            }
            length = 0;
            return control;
        }

        private void readElement(Control control, int from, int to) {
            int start = from;
            while (start < to && text[start] == ' ') {
                start++;
            }
            int end = to;
            while (end > start && text[end - 1] == ' ') {
                end--;
            }
            int nameEnd = start;
            while (nameEnd < end && isOfName(text[nameEnd])) {
                nameEnd++;
            }
            int number = nameEnd == end ? 0 : numberFrom(nameEnd, end);
            int directive = directiveAt(start, nameEnd);
            if (number != NONE && directive != NONE) {
                control.learn(directive, number);
            }
        }

        private static boolean isOfName(char c) {
            return c >= 'a' && c <= 'z' || c == '-';
        }

        private int numberFrom(int start, int end) {
            int digits = end - start - 1;
            if (text[start] != '=' || digits < 1 || digits > MOST_DIGITS) {
                return NONE;
            }
            int number = 0;
            for (int i = start + 1; i < end; i++) {
                if (text[i] < '0' || text[i] > '9') {
                    return NONE;
                }
                number = 10 * number + (text[i] - '0');
            }
            return number;
        }

        private int directiveAt(int start, int end) {
            for (int directive = 0; directive < Control.NAMES; directive++) {
                if (stands(Control.nameOf(directive), start, end)) {
                    return directive;
                }
            }
            return NONE;
        }

        private boolean stands(String name, int start, int end) {
            if (name.length() != end - start) {
                return false;
            }
            for (int i = start; i < end; i++) {
                if (text[i] != name.charAt(i - start)) {
                    return false;
                }
            }
            return true;
        }
    }

    /** What an owner has at a path. It never changes, so that answers and entries can share it. */
    private static final class Resource {
        final int version;
        final int size;
        final boolean varies;
        final Control control;

        Resource(int version, int size, boolean varies, Control control) {
            this.version = version;
            this.size = size;
            this.varies = varies;
            this.control = control;
        }

        boolean isAbsent() {
            return version == 0;
        }

        int tagFor(int variant) {
            return 4 * version + (varies ? variant : 0);
        }
    }

    /** A stored resource; its control and date change when an origin confirms it. */
    private static final class Entry {
        final int path;
        final int variant;
        final Resource resource;
        final int tag;
        Control control;
        int date;

        Entry(int path, int variant, Resource resource, int date) {
            this.path = path;
            this.variant = variant;
            this.resource = resource;
            this.tag = resource.tagFor(variant);
            this.control = resource.control;
            this.date = date;
        }

        boolean matches(int wantedPath, int wantedVariant) {
            return path == wantedPath && (!resource.varies || variant == wantedVariant);
        }

        int age(int time) {
            return time - date;
        }

        boolean serves(Control wanted, int time) {
            int age = age(time);
            int lifetime = control.lifetime();
            if (control.has(Control.NO_CACHE) || wanted.has(Control.NO_CACHE)) {
                return false;
            }
            if (!control.hasLifetime() || age >= lifetime) {
                return false;
            }
            if (wanted.has(Control.MAX_AGE) && age > wanted.number(Control.MAX_AGE)) {
                return false;
            }
            return !wanted.has(Control.MIN_FRESH) || age + wanted.number(Control.MIN_FRESH) <= lifetime;
        }
    }

    /** The entries, the one used longest ago first. */
    private static final class Store {
        private final int capacity;
        private final Entry[] rows;
        private int filled;
        private int count;

        Store(int capacity) {
            this.capacity = capacity;
            // A size is at least 1, so there are never more entries than the capacity.
            rows = new Entry[capacity];
        }

        Entry usedLatest(int k) {
            return k >= 0 && k < count ? rows[count - 1 - k] : null;
        }

        Entry find(int path, int variant) {
            for (int i = 0; i < count; i++) {
                if (rows[i].matches(path, variant)) {
                    return rows[i];
                }
            }
            return null;
        }

        void add(Entry entry) {
            int size = entry.resource.size;
            if (size > capacity) {
                return;
            }
            if (entry.resource.varies) {
                removeMatching(entry.path, entry.variant);
            } else {
                removePath(entry.path);
            }
            for (int left = count; left > 0 && filled + size > capacity; left--) {
                removeAt(0);
            }
            append(entry);
        }

        void makeLatest(Entry entry) {
            int place = placeOf(entry);
            if (place != NONE) {
                removeAt(place);
                append(entry);
            }
        }

        void confirm(Entry entry) {
            int place = placeOf(entry);
            if (place == NONE) {
                return;
            }
            removeAt(place);
            if (entry.control.allowsStoring()) {
                append(entry);
            }
        }

        void removeMatching(int path, int variant) {
            for (int i = count - 1; i >= 0; i--) {
                if (rows[i].matches(path, variant)) {
                    removeAt(i);
                }
            }
        }

        void removePath(int path) {
            for (int i = count - 1; i >= 0; i--) {
                if (rows[i].path == path) {
                    removeAt(i);
                }
            }
        }

        private int placeOf(Entry entry) {
            for (int i = 0; i < count; i++) {
                if (rows[i] == entry) {
                    return i;
                }
            }
            return NONE;
        }

        private void append(Entry entry) {
            rows[count] = entry;
            count++;
            filled += entry.resource.size;
        }

        private void removeAt(int place) {
            filled -= rows[place].resource.size;
            count--;
            for (int i = place; i < count; i++) {
                rows[i] = rows[i + 1];
            }
            rows[count] = null;
        }
    }

    /** A request together with its answer, so that an answer finds it even when it is kept no more. */
    private static final class Request {
        final int number;
        final int kind;
        final int path;
        final int variant;
        final int size;
        final int knownTag;
        final Control control;
        Entry toConfirm;
        int status;
        int answerTag;
        int answerAge;
        int way;

        Request(int number, int path, int variant, int knownTag, Control control) {
            this.number = number;
            this.kind = GET;
            this.path = path;
            this.variant = variant;
            this.size = 0;
            this.knownTag = knownTag;
            this.control = control;
        }

        Request(int number, int kind, int path, int size) {
            this.number = number;
            this.kind = kind;
            this.path = path;
            this.variant = 0;
            this.size = size;
            this.knownTag = 0;
            this.control = new Control();
        }

        void answerOk(int tag, int age, int wayOfAnswer) {
            status = tag == knownTag ? NOT_MODIFIED : OK;
            answerTag = tag;
            answerAge = age;
            way = wayOfAnswer;
        }
    }

    /** A message, which never changes: to send it again is to put the same one under way again. */
    private static final class Message {
        final int origin;
        final boolean isAnswer;
        final int number;
        final int what;
        final int tag;
        /** Null in a probe and in every answer. */
        final Request request;
        /** Null but in an answer 200 or 304. */
        final Resource resource;
        final int date;

        /** A request, or a probe where that is null. */
        Message(int origin, int number, Request request) {
            this.origin = origin;
            this.isAnswer = false;
            this.number = number;
            this.what = request == null ? 0 : request.kind;
            this.tag = request == null || request.toConfirm == null ? 0 : request.toConfirm.tag;
            this.request = request;
            this.resource = null;
            this.date = 0;
        }

        /** An answer without a resource. */
        Message(Message asked, int status) {
            this(asked, status, 0, null, 0);
        }

        Message(Message asked, int status, int tag, Resource resource, int date) {
            this.origin = asked.origin;
            this.isAnswer = true;
            this.number = asked.number;
            this.what = status;
            this.tag = tag;
            this.request = null;
            this.resource = resource;
            this.date = date;
        }
    }

    /** The messages under way, in the order in which they were sent. */
    private static final class UnderWay {
        private static final int MOST = 16;

        private final Message[] messages = new Message[MOST];
        private int count;

        Message at(int k) {
            return k >= 0 && k < count ? messages[k] : null;
        }

        boolean send(Message message) {
            if (count >= MOST) {
                return false;
            }
            messages[count] = message;
            count++;
            return true;
        }

        Message takeOut(int k) {
            Message message = at(k);
            if (message == null) {
                return null;
            }
            count--;
            for (int i = k; i < count; i++) {
                messages[i] = messages[i + 1];
            }
            messages[count] = null;
            return message;
        }
    }

    /** An origin's own side of its connection. */
    private static final class Origin {
        boolean runs = true;
        int lastNumber;
        Message lastAnswer;
    }

    /** The front's side of the connection to one origin. */
    private static final class Connection {
        private static final int MOST_WAITING = 4;
        private static final int FIRST_REPEAT = 4;
        private static final int SECOND_REPEAT = 8;
        private static final int PATIENCE = 12;
        private static final int GIVEN_UP_FOR_DOWN = 2;
        private static final int PROBE_STEP = 10;

        private final int origin;
        private final Message probe;
        private final Request[] queue = new Request[MOST_WAITING];
        private int count;
        private int lastNumber;
        /** What was sent for the first in the queue; null when the queue is empty. */
        private Message work;
        private int workSince;
        private int givenUpInRow;
        private boolean isDown;
        private int downSince;

        Connection(int origin) {
            this.origin = origin;
            probe = new Message(origin, 0, null);
        }

        void admit(Request request, int time, UnderWay underWay) {
            if (isDown) {
                request.status = ORIGIN_IS_DOWN;
            } else if (count >= MOST_WAITING) {
                request.status = TOO_MANY_WAIT;
            } else {
                queue[count] = request;
                count++;
                if (count == 1) {
                    beginNext(time, underWay);
                }
            }
        }

        void beginNext(int time, UnderWay underWay) {
            if (count == 0) {
                return;
            }
            lastNumber++;
            work = new Message(origin, lastNumber, queue[0]);
            workSince = time;
            underWay.send(work);
        }

        /** Takes the request out that is under work with this number; null when the answer does not count. */
        Request finish(int number) {
            if (work == null || work.number != number) {
                return null;
            }
            givenUpInRow = 0;
            return takeFirst();
        }

        void hearProbe() {
            givenUpInRow = 0;
            isDown = false;
        }

        void doWhatIsDue(int time, UnderWay underWay) {
            if (isDown) {
                if ((time - downSince) % PROBE_STEP == 0) {
                    underWay.send(probe);
                }
                return;
            }
            if (work == null) {
                return;
            }
            int worked = time - workSince;
            if (worked >= PATIENCE) {
                giveUp(time, underWay);
            } else if (worked == FIRST_REPEAT || worked == SECOND_REPEAT) {
                underWay.send(work);
            }
        }

        private void giveUp(int time, UnderWay underWay) {
            takeFirst().status = NO_ANSWER;
            givenUpInRow++;
            if (givenUpInRow >= GIVEN_UP_FOR_DOWN) {
                markDown(time);
            } else {
                beginNext(time, underWay);
            }
        }

        private void markDown(int time) {
            isDown = true;
            downSince = time;
            for (int i = 0; i < count; i++) {
                queue[i].status = ORIGIN_IS_DOWN;
                queue[i] = null;
            }
            count = 0;
        }

        private Request takeFirst() {
            Request first = queue[0];
            work = null;
            count--;
            for (int i = 0; i < count; i++) {
                queue[i] = queue[i + 1];
            }
            queue[count] = null;
            return first;
        }
    }
}
