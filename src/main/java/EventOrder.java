/**
 * Events of items from sources whose clocks differ: how far each clock may be off, learned from
 * pairs of events that must stand in order; a least ring of sources that cannot be; events of an
 * item in order, and those of the bags it lay in.
 */
public final class EventOrder {
    public static final int NONE = -1;
    public static final long FAR = Long.MAX_VALUE;

    private static final int MOST_SOURCES = 16;
    private static final int MOST_EVENTS = 300;
    private static final int MOST_NEEDS = 300;
    private static final int KINDS = 8;
    private static final int PLACES = 200;
    private static final int ITEMS = 200;
    private static final int FIRST_BAG = 100;
    private static final int PUT_IN = 1;
    private static final int TAKE_OUT = 2;
    private static final long MOST_CLOCK = 1000000000L;

    private final Events events;
    private final Needs needs;
    private final Limits limits;
    private final Ring told;
    private final Timeline timeline;
    private int sourceCount;
    private boolean settled;

    public EventOrder() {
        events = new Events();
        needs = new Needs();
        limits = new Limits();
        told = new Ring();
        timeline = new Timeline();
        sourceCount = 0;
        settled = false;
    }

    public int source() throws UnsupportedOperationException {
        if (sourceCount >= MOST_SOURCES) {
            throw new UnsupportedOperationException("no room for a source");
        }
        int number = sourceCount;
        sourceCount++;
        settled = false;
        return number;
    }

    public int event(int source, int item, int kind, int place, long clock)
            throws IndexOutOfBoundsException, IllegalArgumentException, UnsupportedOperationException {
        checkSource(source);
        checkItem(item);
        checkKindAndPlace(item, kind, place);
        checkClock(clock);
        if (events.has(source, item, kind, place, clock)) {
            return 0;
        }
        if (events.count >= MOST_EVENTS) {
            throw new UnsupportedOperationException("no room for an event");
        }
        settled = false;
        return events.add(source, item, kind, place, clock);
    }

    public int need(int first, int second)
            throws IndexOutOfBoundsException, IllegalArgumentException, UnsupportedOperationException {
        checkEvent(first);
        checkEvent(second);
        if (first == second) {
            throw new IllegalArgumentException("an event cannot be before itself");
        }
        if (needs.count >= MOST_NEEDS) {
            throw new UnsupportedOperationException("no room for a need");
        }
        settled = false;
        return needs.add(first, second);
    }

    public int settle() {
        limits.weigh(sourceCount, events, needs);
        settled = limits.findBounds(sourceCount);
        if (!settled) {
            told.find(sourceCount, limits.weights);
            return -told.length;
        }
        told.length = 0;
        limits.chooseOffsets(sourceCount);
        timeline.lay(events, limits.offsets);
        return 1;
    }

    public int ring(int i) {
        if (i < 0 || i >= told.length) {
            return NONE;
        }
        return told.row[i];
    }

    public long offset(int source) throws IndexOutOfBoundsException, IllegalStateException {
        checkSource(source);
        checkSettled();
        return limits.offsets[source];
    }

    public long bound(int a, int b) throws IndexOutOfBoundsException, IllegalStateException {
        checkSource(a);
        checkSource(b);
        checkSettled();
        return limits.bounds[a][b];
    }

    public long corrected(int event) throws IndexOutOfBoundsException, IllegalStateException {
        checkEvent(event);
        checkSettled();
        return timeline.times[event];
    }

    public int ordered(int item, int i) throws IndexOutOfBoundsException, IllegalStateException {
        checkItem(item);
        checkSettled();
        return timeline.eventOf(events, item, i);
    }

    public int implied(int bag, int item) throws IndexOutOfBoundsException, IllegalStateException {
        if (!isBag(bag)) {
            throw new IndexOutOfBoundsException("no such bag");
        }
        if (item < 0 || item >= FIRST_BAG) {
            throw new IndexOutOfBoundsException("no such item that is no bag");
        }
        checkSettled();
        return timeline.countImplied(events, bag, item);
    }

    public int correct(int event, long clock) throws IndexOutOfBoundsException, IllegalArgumentException {
        checkEvent(event);
        checkClock(clock);
        // The event itself is found here too when the clock is its own already: 0 is due for both.
        if (events.has(events.sources[event], events.items[event], events.kinds[event],
                events.places[event], clock)) {
            return 0;
        }
        settled = false;
        events.clocks[event] = clock;
        return 1;
    }

    public int ask(int kind, int of) throws IllegalArgumentException {
        switch (kind) {
            case 0:
                return events.countIn(events.items, of);
            case 1:
                return events.countIn(events.places, of);
            case 2:
                return events.countIn(events.sources, of);
            case 3:
                return events.countIn(events.kinds, of);
            default:
                throw new IllegalArgumentException("no such kind of question");
        }
    }

    private void checkSource(int source) {
        if (source < 0 || source >= sourceCount) {
            throw new IndexOutOfBoundsException("no such source");
        }
    }

    private void checkEvent(int event) {
        if (event < 1 || event > events.count) {
            throw new IndexOutOfBoundsException("no such event");
        }
    }

    private void checkSettled() {
        if (!settled) {
            throw new IllegalStateException("not settled without a ring");
        }
    }

    private static void checkItem(int item) {
        if (item < 0 || item >= ITEMS) {
            throw new IndexOutOfBoundsException("no such item");
        }
    }

    private static void checkKindAndPlace(int item, int kind, int place) {
        if (kind < 0 || kind >= KINDS) {
            throw new IllegalArgumentException("kind out of range");
        }
        if (place < 0 || place >= PLACES) {
            throw new IllegalArgumentException("place out of range");
        }
        if ((kind == PUT_IN || kind == TAKE_OUT) && (isBag(item) || !isBag(place))) {
            throw new IllegalArgumentException("only an item that is no bag goes into or out of a bag");
        }
    }

    private static void checkClock(long clock) {
        if (clock < -MOST_CLOCK || clock > MOST_CLOCK) {
            throw new IllegalArgumentException("clock out of range");
        }
    }

    private static boolean isBag(int number) {
        return number >= FIRST_BAG && number < ITEMS;
    }

    /** The events as they were told; an event's number is its index, so index 0 stays unused. */
    private static final class Events {
        final int[] sources;
        final int[] items;
        final int[] kinds;
        final int[] places;
        final long[] clocks;
        int count;

        Events() {
            sources = new int[MOST_EVENTS + 1];
            items = new int[MOST_EVENTS + 1];
            kinds = new int[MOST_EVENTS + 1];
            places = new int[MOST_EVENTS + 1];
            clocks = new long[MOST_EVENTS + 1];
            count = 0;
        }

        /** The caller has seen that there is room. */
        int add(int source, int item, int kind, int place, long clock) {
            count++;
            sources[count] = source;
            items[count] = item;
            kinds[count] = kind;
            places[count] = place;
            clocks[count] = clock;
            return count;
        }

        boolean has(int source, int item, int kind, int place, long clock) {
            for (int e = 1; e <= count; e++) {
                if (clocks[e] == clock && sources[e] == source && items[e] == item
                        && kinds[e] == kind && places[e] == place) {
                    return true;
                }
            }
            return false;
        }

        int countIn(int[] column, int value) {
            int found = 0;
            for (int e = 1; e <= count; e++) {
                if (column[e] == value) {
                    found++;
                }
            }
            return found;
        }
    }

    /** Pairs of event numbers, of which the first must be before the second. */
    private static final class Needs {
        final int[] firsts;
        final int[] seconds;
        int count;

        Needs() {
            firsts = new int[MOST_NEEDS];
            seconds = new int[MOST_NEEDS];
            count = 0;
        }

        /** The caller has seen that there is room. */
        int add(int first, int second) {
            firsts[count] = first;
            seconds[count] = second;
            count++;
            return count;
        }
    }

    /** What the needs leave of each source's offset against the others; FAR stands for no limit. */
    private static final class Limits {
        final long[][] weights;
        final long[][] bounds;
        final long[] offsets;

        Limits() {
            weights = new long[MOST_SOURCES][MOST_SOURCES];
            bounds = new long[MOST_SOURCES][MOST_SOURCES];
            offsets = new long[MOST_SOURCES];
        }

        /** Begun anew each time, because a correction may loosen a limit as well as tighten it. */
        void weigh(int sourceCount, Events events, Needs needs) {
            for (int a = 0; a < sourceCount; a++) {
                for (int b = 0; b < sourceCount; b++) {
                    weights[a][b] = FAR;
                }
            }
            for (int i = 0; i < needs.count; i++) {
                int first = needs.firsts[i];
                int second = needs.seconds[i];
                int a = events.sources[first];
                int b = events.sources[second];
                long gap = events.clocks[second] - events.clocks[first] - 1;
                weights[a][b] = Math.min(weights[a][b], gap);
            }
        }

        /** Whether there is no ring; the bounds are of use only then. */
        boolean findBounds(int sourceCount) {
            for (int a = 0; a < sourceCount; a++) {
                for (int b = 0; b < sourceCount; b++) {
                    bounds[a][b] = weights[a][b];
                }
                bounds[a][a] = Math.min(weights[a][a], 0);
            }
            // Going on past a ring would double the sums at each step until they wrap.
            boolean possible = !closesBelowZero(sourceCount);
            for (int via = 0; via < sourceCount && possible; via++) {
                shortenThrough(via, sourceCount);
                possible = !closesBelowZero(sourceCount);
            }
            return possible;
        }

        private void shortenThrough(int via, int sourceCount) {
            for (int a = 0; a < sourceCount; a++) {
                if (bounds[a][via] == FAR) {
                    continue;
                }
                for (int b = 0; b < sourceCount; b++) {
                    if (bounds[via][b] != FAR) {
                        bounds[a][b] = Math.min(bounds[a][b], bounds[a][via] + bounds[via][b]);
                    }
                }
            }
        }

        private boolean closesBelowZero(int sourceCount) {
            for (int a = 0; a < sourceCount; a++) {
                if (bounds[a][a] < 0) {
                    return true;
                }
            }
            return false;
        }

        void chooseOffsets(int sourceCount) {
            for (int s = 0; s < sourceCount; s++) {
                long least = -FAR;
                long most = FAR;
                for (int t = 0; t < s; t++) {
                    if (bounds[s][t] != FAR) {
                        most = Math.min(most, offsets[t] + bounds[s][t]);
                    }
                    if (bounds[t][s] != FAR) {
                        least = Math.max(least, offsets[t] - bounds[t][s]);
                    }
                }
                offsets[s] = Math.max(least, Math.min(most, 0));
            }
        }
    }

    /**
     * The ring that was told latest; its length is 0 when none was.
     *
     * <p>The search goes over closed walks by their number of steps, and lets them meet a source
     * twice. That does no harm at the fewest steps with a sum below 0: such a walk could be cut
     * into two shorter closed ones there, one of them below 0 too.
     */
    private static final class Ring {
        final int[] row;
        /** homeward[k][s]: the least sum of a walk of just k steps from s to the start. */
        final long[][] homeward;
        int length;

        Ring() {
            row = new int[MOST_SOURCES];
            homeward = new long[MOST_SOURCES + 1][MOST_SOURCES];
            length = 0;
        }

        /**
         * Only fewer steps replace what an earlier start gave: every source of a ring can be its
         * start, so the first start that reaches the fewest steps is the ring's least source.
         */
        void find(int sourceCount, long[][] weights) {
            length = 0;
            int limit = sourceCount;
            for (int start = 0; start < sourceCount; start++) {
                int steps = stepsBack(start, limit, sourceCount, weights);
                if (steps > 0) {
                    length = steps;
                    limit = steps - 1;
                    trace(start, sourceCount, weights);
                }
            }
        }

        /** The fewest steps, up to a limit, from a start to itself with a sum below 0; else 0. */
        private int stepsBack(int start, int limit, int sourceCount, long[][] weights) {
            for (int s = 0; s < sourceCount; s++) {
                homeward[0][s] = FAR;
            }
            homeward[0][start] = 0;
            for (int steps = 1; steps <= limit; steps++) {
                for (int s = 0; s < sourceCount; s++) {
                    homeward[steps][s] = leastThroughNext(weights[s], homeward[steps - 1], sourceCount);
                }
                if (homeward[steps][start] < 0) {
                    return steps;
                }
            }
            return 0;
        }

        private static long leastThroughNext(long[] step, long[] rest, int sourceCount) {
            long least = FAR;
            for (int next = 0; next < sourceCount; next++) {
                if (step[next] != FAR && rest[next] != FAR) {
                    least = Math.min(least, step[next] + rest[next]);
                }
            }
            return least;
        }

        /** Takes at each place the least source from which the walk can still end below 0. */
        private void trace(int start, int sourceCount, long[][] weights) {
            row[0] = start;
            long sum = 0;
            for (int i = 1; i < length; i++) {
                long[] step = weights[row[i - 1]];
                row[i] = leastNext(sum, step, homeward[length - i], sourceCount);
                sum += step[row[i]];
            }
        }

        private static int leastNext(long sum, long[] step, long[] rest, int sourceCount) {
            for (int next = 0; next < sourceCount; next++) {
                if (step[next] != FAR && rest[next] != FAR && sum + step[next] + rest[next] < 0) {
                    return next;
                }
            }
            // Not reached: the walk so far was chosen because it can end below 0.
            return 0;
        }
    }

    /** The events by their corrected times. */
    private static final class Timeline {
        final long[] times;
        final int[] order;
        int count;

        Timeline() {
            times = new long[MOST_EVENTS + 1];
            order = new int[MOST_EVENTS];
            count = 0;
        }

        /** Put in by their numbers, each behind its equals, so that numbers decide at the last. */
        void lay(Events events, long[] offsets) {
            count = events.count;
            for (int e = 1; e <= count; e++) {
                times[e] = events.clocks[e] + offsets[events.sources[e]];
                int at = e - 1;
                while (at > 0 && isLater(order[at - 1], e, events.places)) {
                    order[at] = order[at - 1];
                    at--;
                }
                order[at] = e;
            }
        }

        private boolean isLater(int one, int other, int[] places) {
            if (times[one] != times[other]) {
                return times[one] > times[other];
            }
            return places[one] > places[other];
        }

        int eventOf(Events events, int item, int i) {
            int before = 0;
            for (int at = 0; at < count; at++) {
                if (events.items[order[at]] == item) {
                    if (before == i) {
                        return order[at];
                    }
                    before++;
                }
            }
            return 0;
        }

        /**
         * An event of the bag is implied just when the last move of the item, into this bag or out
         * of it, at an earlier time put it in. Moves at its own time do not count for it, so what
         * they do is held back until the time goes on.
         */
        int countImplied(Events events, int bag, int item) {
            int found = 0;
            boolean inside = false;
            boolean insideNext = false;
            for (int at = 0; at < count; at++) {
                int e = order[at];
                if (at > 0 && times[e] != times[order[at - 1]]) {
                    inside = insideNext;
                }
                if (events.items[e] == bag) {
                    if (inside) {
                        found++;
                    }
                } else if (events.items[e] == item && events.places[e] == bag) {
                    insideNext = isInsideAfter(events.kinds[e], insideNext);
                }
            }
            return found;
        }

        private static boolean isInsideAfter(int kind, boolean before) {
            if (kind == PUT_IN) {
                return true;
            }
            return kind != TAKE_OUT && before;
        }
    }
}
