/** All that an object shows without being changed, as one text, so that two objects can be compared. */
final class Look {
    private Look() {
    }

    /** Asks about every path, origin, message and entry, and about the requests up to the last one. */
    static String at(FrontCache x, int lastRequest) {
        StringBuilder text = new StringBuilder();
        for (int path = 0; path < 8; path++) {
            text.append(" version(").append(path).append(")=").append(x.version(path));
        }
        for (int origin = 0; origin < 3; origin++) {
            text.append(" waiting(").append(origin).append(")=").append(x.waiting(origin));
        }
        int flights = x.flights();
        text.append(" flights()=").append(flights);
        for (int k = 0; k < flights; k++) {
            text.append(" flight(").append(k).append(")=");
            for (int w = 0; w < 4; w++) {
                text.append(x.flight(k, w)).append(w < 3 ? "/" : "");
            }
        }
        int entries = x.entries();
        text.append(" entries()=").append(entries);
        for (int k = 0; k < entries; k++) {
            text.append(" entry(").append(k).append(")=");
            for (int w = 0; w < 6; w++) {
                text.append(x.entry(k, w)).append(w < 5 ? "/" : "");
            }
        }
        for (int request = Math.max(1, lastRequest - 15); request <= lastRequest; request++) {
            text.append(" answer(").append(request).append(")=");
            for (int w = 0; w < 4; w++) {
                text.append(x.answer(request, w)).append(w < 3 ? "/" : "");
            }
        }
        return text.toString();
    }
}
