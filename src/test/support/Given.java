/** Objects that tests begin with, and what is asked of them again and again. */
final class Given {
    /** The highest clock. */
    static final long TOP = 1000000000L;
    /** The least and the highest limit that two events can make. */
    static final long LOWEST = -2 * TOP - 1;
    static final long HIGHEST = 2 * TOP - 1;

    private Given() {
    }

    static EventOrder sources(int count) {
        EventOrder x = new EventOrder();
        for (int i = 0; i < count; i++) {
            x.source();
        }
        return x;
    }

    /** Makes w(a, b) this or less, by two events of their own and a need between them. */
    static void limit(EventOrder x, int a, int b, long weight) {
        long gap = weight + 1;
        long from = gap > TOP ? -TOP : gap < -TOP ? TOP : 0;
        int first = freeEvent(x, a, 0, from);
        int second = freeEvent(x, b, 3, from + gap);
        x.need(first, second);
    }

    private static int freeEvent(EventOrder x, int source, int kind, long clock) {
        int number = 0;
        for (int item = 0; number == 0 && item < 100; item++) {
            number = x.event(source, item, kind, 0, clock);
        }
        return number;
    }

    /** One source and events of item 0 at these clocks. */
    static EventOrder events(long... clocks) {
        EventOrder x = sources(1);
        for (long clock : clocks) {
            x.event(0, 0, 0, 0, clock);
        }
        return x;
    }

    static void dueRing(String what, EventOrder x, int... row) {
        Check.due(what + ", settle", -row.length, x.settle());
        for (int i = 0; i < row.length; i++) {
            Check.due(what + ", ring(" + i + ")", row[i], x.ring(i));
        }
        Check.due(what + ", behind the ring", EventOrder.NONE, x.ring(row.length));
        Check.due(what + ", before the ring", EventOrder.NONE, x.ring(-1));
    }

    /** There must be source 0 and event 1. */
    static void dueUnsettled(String what, EventOrder x) {
        Check.dueState(what + ", offset", () -> x.offset(0));
        Check.dueState(what + ", bound", () -> x.bound(0, 0));
        Check.dueState(what + ", corrected", () -> x.corrected(1));
        Check.dueState(what + ", ordered", () -> x.ordered(0, 0));
        Check.dueState(what + ", implied", () -> x.implied(100, 0));
    }
}
