/** Each promise of the document: ordinary calls, the edges it names, and wrong inputs. */
public final class PromisesTest {
    private static final long TOP = 1000000000L;

    public static void main(String[] args) {
        newObject();
        source();
        eventNumbers();
        eventSameAgain();
        eventWrongInputs();
        eventNoRoom();
        need();
        needNoRoom();
        settle();
        settleHoldsUntil();
        ringOrder();
        ringOfFewest();
        ringStays();
        ringOfAll();
        ringAtTheEnds();
        offset();
        offsetAgainstAll();
        bound();
        corrected();
        ordered();
        implied();
        impliedAtEqualTimes();
        impliedWrongInputs();
        correct();
        ask();
        Check.end();
    }

    private static EventOrder withSources(int count) {
        EventOrder x = new EventOrder();
        for (int i = 0; i < count; i++) {
            x.source();
        }
        return x;
    }

    /** Makes w(a, b) just this, by two events of their own and a need between them. */
    private static void limit(EventOrder x, int a, int b, long weight) {
        int item = 0;
        int first = 0;
        while (first == 0) {
            first = x.event(a, item++, 0, 0, 0);
        }
        int second = 0;
        while (second == 0) {
            second = x.event(b, item++, 0, 0, weight + 1);
        }
        x.need(first, second);
    }

    private static void dueRing(String what, EventOrder x, int... row) {
        Check.due(what + ", settle", -row.length, x.settle());
        for (int i = 0; i < row.length; i++) {
            Check.due(what + ", ring(" + i + ")", row[i], x.ring(i));
        }
        Check.due(what + ", behind the ring", EventOrder.NONE, x.ring(row.length));
        Check.due(what + ", before the ring", EventOrder.NONE, x.ring(-1));
    }

    private static void newObject() {
        EventOrder x = new EventOrder();
        Check.dueIndex("1 offset(0)", () -> x.offset(0));
        Check.dueIndex("1 event of source 0", () -> x.event(0, 0, 0, 0, 0));
        Check.dueIndex("1 corrected(1)", () -> x.corrected(1));
        Check.dueState("1 ordered", () -> x.ordered(0, 0));
        Check.dueState("1 implied", () -> x.implied(100, 0));
        Check.due("1 ring", EventOrder.NONE, x.ring(0));
        Check.due("1 ask", 0, x.ask(2, 0));
        Check.due("1 settle", 1, x.settle());
        Check.due("1 ordered", 0, x.ordered(0, 0));
        Check.due("1 implied", 0, x.implied(100, 0));
        Check.due("1 source", 0, new EventOrder().source());
    }

    private static void source() {
        EventOrder x = new EventOrder();
        for (int i = 0; i < 16; i++) {
            Check.due("2 source", i, x.source());
        }
        Check.due("2 settle", 1, x.settle());
        Check.dueNoRoom("2 source 16", x::source);
        Check.due("2 still settled", 0, x.offset(15));
        Check.dueIndex("2 offset(16)", () -> x.offset(16));
        Check.dueNoRoom("2 source again", x::source);
    }

    private static void eventNumbers() {
        EventOrder x = withSources(2);
        Check.due("3 first", 1, x.event(0, 0, 0, 0, -TOP));
        Check.due("3 second", 2, x.event(1, 199, 7, 199, TOP));
        Check.due("3 into a bag", 3, x.event(1, 99, 1, 100, 0));
        Check.due("3 out of a bag", 4, x.event(1, 0, 2, 199, 0));
        Check.due("3 a bag at a place that is none", 5, x.event(1, 100, 3, 99, 0));
        Check.due("3 a bag in a bag by another kind", 6, x.event(1, 100, 0, 101, 0));
    }

    private static void eventSameAgain() {
        EventOrder x = withSources(2);
        Check.due("3 first", 1, x.event(0, 5, 3, 7, 9));
        Check.due("3 same", 0, x.event(0, 5, 3, 7, 9));
        Check.due("3 other source", 2, x.event(1, 5, 3, 7, 9));
        Check.due("3 other item", 3, x.event(0, 6, 3, 7, 9));
        Check.due("3 other kind", 4, x.event(0, 5, 4, 7, 9));
        Check.due("3 other place", 5, x.event(0, 5, 3, 8, 9));
        Check.due("3 other clock", 6, x.event(0, 5, 3, 7, 10));
        Check.due("3 same as the last", 0, x.event(0, 5, 3, 7, 10));
        Check.due("3 none came", 5, x.ask(2, 0) + x.ask(2, 1) - 1);
    }

    private static void eventWrongInputs() {
        EventOrder x = withSources(1);
        x.settle();
        Check.dueIndex("3 source -1", () -> x.event(-1, 0, 0, 0, 0));
        Check.dueIndex("3 source 1", () -> x.event(1, 0, 0, 0, 0));
        Check.dueIndex("3 source least", () -> x.event(Integer.MIN_VALUE, 0, 0, 0, 0));
        Check.dueIndex("3 item -1", () -> x.event(0, -1, 0, 0, 0));
        Check.dueIndex("3 item 200", () -> x.event(0, 200, 0, 0, 0));
        Check.dueIndex("3 item before kind", () -> x.event(0, 200, 8, 200, TOP + 1));
        Check.dueIndex("3 source before kind", () -> x.event(1, 0, 8, 200, TOP + 1));
        Check.dueArgument("3 kind -1", () -> x.event(0, 0, -1, 0, 0));
        Check.dueArgument("3 kind 8", () -> x.event(0, 0, 8, 0, 0));
        Check.dueArgument("3 place -1", () -> x.event(0, 0, 0, -1, 0));
        Check.dueArgument("3 place 200", () -> x.event(0, 0, 0, 200, 0));
        Check.dueArgument("3 clock above", () -> x.event(0, 0, 0, 0, TOP + 1));
        Check.dueArgument("3 clock below", () -> x.event(0, 0, 0, 0, -TOP - 1));
        Check.dueArgument("3 clock far", () -> x.event(0, 0, 0, 0, Long.MIN_VALUE));
        Check.dueArgument("3 clock of 33 bits", () -> x.event(0, 0, 0, 0, 1L << 32));
        for (int kind = 1; kind <= 2; kind++) {
            int k = kind;
            Check.dueArgument("3 a bag into a bag", () -> x.event(0, 100, k, 101, 0));
            Check.dueArgument("3 a bag 199", () -> x.event(0, 199, k, 101, 0));
            Check.dueArgument("3 into no bag", () -> x.event(0, 99, k, 99, 0));
            Check.dueArgument("3 into no place", () -> x.event(0, 99, k, 200, 0));
        }
        Check.due("3 nothing changed", 0, x.ask(2, 0));
        Check.due("3 still settled", 0, x.offset(0));
    }

    private static void eventNoRoom() {
        EventOrder x = withSources(1);
        for (int i = 1; i <= 300; i++) {
            Check.due("3 event", i, x.event(0, 7, 0, 0, 300 - i));
        }
        Check.due("3 settle", 1, x.settle());
        Check.dueNoRoom("3 event 301", () -> x.event(0, 7, 0, 0, 300));
        Check.due("3 same without room", 0, x.event(0, 7, 0, 0, 0));
        Check.dueIndex("3 source before room", () -> x.event(1, 7, 0, 0, 300));
        Check.dueArgument("3 kind before room", () -> x.event(0, 7, 8, 0, 300));
        Check.due("3 all in order", 300, x.ordered(7, 0));
        Check.due("3 all in order", 1, x.ordered(7, 299));
        Check.due("3 none more", 0, x.ordered(7, 300));
        Check.due("3 none implied", 0, x.implied(100, 7));
        Check.due("3 count", 300, x.ask(0, 7));
        Check.dueIndex("3 event 301", () -> x.corrected(301));
        Check.due("3 a correction needs no room", 1, x.correct(300, 1000));
        Check.due("3 settle", 1, x.settle());
        Check.due("3 last now", 300, x.ordered(7, 299));
    }

    private static void need() {
        EventOrder x = withSources(2);
        x.event(0, 0, 0, 0, 0);
        x.event(1, 0, 0, 0, 0);
        x.settle();
        Check.dueIndex("4 first 0", () -> x.need(0, 1));
        Check.dueIndex("4 second 0", () -> x.need(1, 0));
        Check.dueIndex("4 first 3", () -> x.need(3, 1));
        Check.dueIndex("4 second 3", () -> x.need(1, 3));
        Check.dueIndex("4 both 3", () -> x.need(3, 3));
        Check.dueIndex("4 both least", () -> x.need(Integer.MIN_VALUE, Integer.MIN_VALUE));
        Check.dueArgument("4 same", () -> x.need(2, 2));
        Check.due("4 still settled", 0, x.offset(1));
        Check.due("4 a need", 1, x.need(1, 2));
        Check.due("4 it again", 2, x.need(1, 2));
        Check.due("4 settle", 1, x.settle());
        Check.due("4 below, not equal", 1, x.offset(1));
        Check.due("4 the other way", 3, x.need(2, 1));
        dueRing("4 both ways", x, 0, 1);
    }

    private static void needNoRoom() {
        EventOrder x = withSources(1);
        x.event(0, 0, 0, 0, 0);
        x.event(0, 0, 0, 0, 5);
        for (int i = 1; i <= 300; i++) {
            Check.due("4 need", i, x.need(1, 2));
        }
        x.settle();
        Check.dueNoRoom("4 need 301", () -> x.need(1, 2));
        Check.dueArgument("4 same before room", () -> x.need(1, 1));
        Check.dueIndex("4 event before room", () -> x.need(1, 3));
        Check.due("4 still settled", 0, x.offset(0));
        Check.due("4 settle", 1, x.settle());
    }

    private static void settle() {
        EventOrder x = withSources(2);
        limit(x, 0, 1, -5);
        limit(x, 1, 0, 5);
        Check.due("5 a sum of 0 is no ring", 1, x.settle());
        limit(x, 1, 0, 4);
        Check.due("5 a sum of -1 is one", -2, x.settle());
        Check.due("5 again", -2, x.settle());
        EventOrder y = withSources(1);
        limit(y, 0, 0, 0);
        Check.due("5 one source, 0", 1, y.settle());
        limit(y, 0, 0, -1);
        Check.due("5 one source, -1", -1, y.settle());
    }

    private static void dueUnsettled(String what, EventOrder x) {
        Check.dueState(what + ", offset", () -> x.offset(0));
        Check.dueState(what + ", bound", () -> x.bound(0, 0));
        Check.dueState(what + ", corrected", () -> x.corrected(1));
        Check.dueState(what + ", ordered", () -> x.ordered(0, 0));
        Check.dueState(what + ", implied", () -> x.implied(100, 0));
        x.settle();
        Check.due(what + ", settled", 0, x.bound(0, 0));
    }

    private static void settleHoldsUntil() {
        EventOrder x = new EventOrder();
        x.settle();
        x.source();
        Check.dueState("5 the first source", () -> x.offset(0));
        x.event(0, 0, 0, 0, 0);
        x.settle();
        x.event(0, 0, 0, 0, 9);
        dueUnsettled("5 an event", x);
        x.source();
        dueUnsettled("5 a source", x);
        x.need(1, 2);
        dueUnsettled("5 a need", x);
        x.correct(2, 8);
        dueUnsettled("5 a correction", x);
        x.event(0, 0, 0, 0, 8);
        Check.due("5 holds after an event that was there", 0, x.offset(0));
        x.correct(2, 8);
        Check.due("5 holds after a correction that changes nothing", 0, x.offset(0));
        x.correct(2, 0);
        Check.due("5 holds after a correction onto another", 8, x.corrected(2));
        x.ask(0, 0);
        x.ring(0);
        Check.due("5 holds after questions", 0, x.offset(1));
    }

    private static void ringOrder() {
        EventOrder x = withSources(4);
        limit(x, 3, 1, -1);
        limit(x, 1, 2, -1);
        limit(x, 2, 3, -1);
        dueRing("6 begun with its least", x, 1, 2, 3);
        limit(x, 1, 3, 1);
        limit(x, 3, 2, 0);
        limit(x, 2, 1, 5);
        dueRing("6 the pair 2, 3 is shorter", x, 2, 3);
        limit(x, 0, 3, 7);
        limit(x, 3, 0, -8);
        dueRing("6 of two pairs the one with the least source", x, 0, 3);
        limit(x, 0, 2, 7);
        limit(x, 2, 0, -8);
        dueRing("6 then the one with the least next", x, 0, 2);
    }

    private static void ringOfFewest() {
        EventOrder x = withSources(5);
        limit(x, 0, 1, -1000);
        limit(x, 1, 2, -1000);
        limit(x, 2, 0, -1000);
        dueRing("6 three", x, 0, 1, 2);
        limit(x, 3, 4, 10);
        limit(x, 4, 3, -11);
        dueRing("6 two, though less far below 0", x, 3, 4);
        limit(x, 4, 4, -1);
        dueRing("6 one", x, 4);
        limit(x, 2, 2, -1);
        dueRing("6 the least one", x, 2);
        EventOrder y = withSources(4);
        limit(y, 0, 3, -10);
        limit(y, 3, 1, -10);
        limit(y, 1, 0, 15);
        limit(y, 0, 2, 0);
        limit(y, 2, 1, -16);
        dueRing("6 the least row, not the least sum", y, 0, 2, 1);
    }

    private static void ringStays() {
        EventOrder x = withSources(2);
        limit(x, 0, 1, -1);
        limit(x, 1, 0, 0);
        dueRing("6 ring", x, 0, 1);
        x.source();
        x.event(2, 50, 0, 0, 0);
        x.correct(1, -100);
        Check.due("6 whatever came since", 1, x.ring(1));
        Check.dueState("6 not settled", () -> x.offset(0));
        Check.due("6 settled", 1, x.settle());
        Check.due("6 it told none", EventOrder.NONE, x.ring(0));
        Check.due("6 far", EventOrder.NONE, x.ring(Integer.MAX_VALUE));
        Check.due("6 least", EventOrder.NONE, x.ring(Integer.MIN_VALUE));
    }

    private static void ringOfAll() {
        EventOrder x = withSources(16);
        int[] row = {0, 2, 4, 6, 8, 10, 12, 14, 15, 13, 11, 9, 7, 5, 3, 1};
        for (int i = 0; i < 16; i++) {
            limit(x, row[i], row[(i + 1) % 16], i == 9 ? -16 : 1);
        }
        dueRing("6 all sources", x, row);
        Check.due("6 behind sixteen", EventOrder.NONE, x.ring(16));
    }

    /** Every limit as low as clocks allow: no sum may wrap round. */
    private static void ringAtTheEnds() {
        EventOrder x = withSources(16);
        for (int s = 0; s < 16; s++) {
            x.event(s, 0, 0, 0, TOP);
            x.event(s, 0, 0, 0, -TOP);
        }
        for (int a = 0; a < 16; a++) {
            for (int b = 0; b < 16; b++) {
                if (a != b) {
                    x.need(2 * a + 1, 2 * b + 2);
                }
            }
        }
        dueRing("6 all pairs", x, 0, 1);
        EventOrder y = withSources(16);
        for (int s = 0; s < 16; s++) {
            y.event(s, 0, 0, 0, TOP);
            y.event(s, 0, 0, 0, -TOP);
        }
        for (int s = 0; s < 15; s++) {
            y.need(2 * s + 1, 2 * s + 4);
        }
        Check.due("8 a long way down", 1, y.settle());
        Check.due("8 a long way down", -15 * (2 * TOP + 1), y.bound(0, 15));
        Check.due("7 a long way up", 15 * (2 * TOP + 1), y.offset(15));
        Check.due("9 a long way up", 15 * (2 * TOP + 1) + TOP, y.corrected(31));
    }

    private static void offset() {
        EventOrder x = withSources(3);
        limit(x, 1, 0, -7);
        Check.due("7 settle", 1, x.settle());
        Check.due("7 the first", 0, x.offset(0));
        Check.due("7 from above", -7, x.offset(1));
        Check.due("7 free", 0, x.offset(2));
        Check.dueIndex("7 none 3", () -> x.offset(3));
        Check.dueIndex("7 none -1", () -> x.offset(-1));
        limit(x, 1, 2, -10);
        Check.dueState("7 not settled", () -> x.offset(0));
        Check.dueIndex("7 source before state", () -> x.offset(3));
        Check.due("7 settle", 1, x.settle());
        Check.due("7 from below, with an offset added", 3, x.offset(2));
        limit(x, 2, 0, 1);
        x.settle();
        Check.due("7 source 1 is bound through 2", -9, x.offset(1));
        Check.due("7 source 2 then", 1, x.offset(2));
    }

    private static void offsetAgainstAll() {
        EventOrder x = withSources(3);
        limit(x, 0, 2, -4);
        limit(x, 1, 2, -9);
        x.settle();
        Check.due("7 the highest of what is below", 9, x.offset(2));
        EventOrder y = withSources(3);
        limit(y, 2, 0, -4);
        limit(y, 2, 1, -9);
        y.settle();
        Check.due("7 the lowest of what is above", -9, y.offset(2));
        EventOrder z = withSources(2);
        limit(z, 0, 1, 4);
        limit(z, 1, 0, 4);
        z.settle();
        Check.due("7 0 when it may be", 0, z.offset(1));
    }

    private static void bound() {
        EventOrder x = withSources(4);
        limit(x, 0, 1, 10);
        limit(x, 0, 1, 12);
        limit(x, 1, 2, -3);
        limit(x, 0, 2, 20);
        limit(x, 2, 0, 30);
        limit(x, 1, 1, 6);
        Check.dueState("8 not settled", () -> x.bound(0, 1));
        Check.due("8 settle", 1, x.settle());
        Check.due("8 the least of two needs", 10, x.bound(0, 1));
        Check.due("8 by a way", 7, x.bound(0, 2));
        Check.due("8 round", 40, x.bound(2, 1));
        Check.due("8 to itself", 0, x.bound(1, 1));
        Check.due("8 no way", EventOrder.FAR, x.bound(3, 0));
        Check.due("8 no way", EventOrder.FAR, x.bound(0, 3));
        Check.due("8 to itself without needs", 0, x.bound(3, 3));
        Check.dueIndex("8 a 4", () -> x.bound(4, 0));
        Check.dueIndex("8 b 4", () -> x.bound(0, 4));
        Check.dueIndex("8 a -1", () -> x.bound(-1, 0));
        Check.dueIndex("8 b -1", () -> x.bound(0, -1));
        limit(x, 2, 2, -1);
        x.settle();
        Check.dueState("8 a ring", () -> x.bound(0, 1));
        Check.dueIndex("8 source before state", () -> x.bound(0, 4));
    }

    private static void corrected() {
        EventOrder x = withSources(2);
        x.event(0, 0, 0, 0, TOP);
        x.event(1, 0, 0, 0, -TOP);
        x.event(1, 0, 0, 0, 17);
        Check.dueState("9 not settled", () -> x.corrected(1));
        Check.dueIndex("9 event before state", () -> x.corrected(4));
        x.need(1, 2);
        x.settle();
        Check.due("9 first", TOP, x.corrected(1));
        Check.due("9 second", TOP + 1, x.corrected(2));
        Check.due("9 same source", 2 * TOP + 18, x.corrected(3));
        Check.dueIndex("9 event 0", () -> x.corrected(0));
        Check.dueIndex("9 event 4", () -> x.corrected(4));
        Check.dueIndex("9 event -1", () -> x.corrected(-1));
    }

    private static void ordered() {
        EventOrder x = withSources(2);
        x.event(0, 9, 0, 50, 10);
        x.event(0, 9, 0, 40, 10);
        x.event(0, 9, 4, 50, 10);
        x.event(0, 9, 3, 40, 10);
        x.event(0, 9, 0, 199, 9);
        x.event(1, 9, 0, 0, 0);
        x.event(1, 199, 0, 0, 0);
        x.need(1, 6);
        Check.dueState("10 not settled", () -> x.ordered(9, 0));
        Check.dueIndex("10 item before state", () -> x.ordered(200, 0));
        x.settle();
        int[] due = {5, 2, 4, 1, 3, 6, 0};
        for (int i = 0; i < due.length; i++) {
            Check.due("10 by time, place, number", due[i], x.ordered(9, i));
        }
        Check.due("10 a bag", 7, x.ordered(199, 0));
        Check.due("10 an item without events", 0, x.ordered(0, 0));
        Check.due("10 before the first", 0, x.ordered(9, -1));
        Check.due("10 far behind", 0, x.ordered(9, Integer.MAX_VALUE));
        Check.dueIndex("10 item -1", () -> x.ordered(-1, 0));
        Check.dueIndex("10 item 200", () -> x.ordered(200, 0));
    }

    private static void implied() {
        EventOrder x = withSources(1);
        x.event(0, 1, 1, 100, 10);
        x.event(0, 1, 1, 100, 20);
        x.event(0, 1, 2, 100, 30);
        x.event(0, 1, 2, 100, 40);
        x.event(0, 2, 2, 100, 15);
        x.event(0, 1, 2, 101, 12);
        x.event(0, 1, 0, 100, 13);
        for (int t = 5; t <= 45; t += 5) {
            x.event(0, 100, 0, 0, t);
        }
        x.settle();
        Check.due("11 put in twice, each event once", 4, x.implied(100, 1));
        Check.due("11 taken out only", 0, x.implied(100, 2));
        Check.due("11 another bag", 0, x.implied(101, 1));
        x.event(0, 1, 1, 100, 42);
        x.event(0, 100, 7, 199, 1000);
        x.settle();
        Check.due("11 all later ones", 6, x.implied(100, 1));
        x.event(0, 99, 1, 199, 0);
        x.event(0, 199, 0, 100, 1);
        x.settle();
        Check.due("11 the last item and bag", 1, x.implied(199, 99));
    }

    private static void impliedAtEqualTimes() {
        EventOrder x = withSources(1);
        x.event(0, 1, 1, 150, 10);
        x.event(0, 150, 0, 199, 10);
        x.event(0, 150, 0, 0, 10);
        x.settle();
        Check.due("11 not at the time of the put", 0, x.implied(150, 1));
        x.event(0, 1, 2, 150, 20);
        x.event(0, 150, 0, 199, 20);
        x.event(0, 150, 0, 0, 20);
        x.settle();
        Check.due("11 at the time of the take", 2, x.implied(150, 1));
        EventOrder y = withSources(1);
        y.event(0, 1, 1, 150, 10);
        y.event(0, 1, 2, 150, 10);
        y.event(0, 150, 0, 0, 11);
        y.settle();
        Check.due("11 out at once, by number", 0, y.implied(150, 1));
        EventOrder z = withSources(1);
        z.event(0, 1, 2, 150, 10);
        z.event(0, 1, 1, 150, 10);
        z.event(0, 150, 0, 0, 11);
        z.settle();
        Check.due("11 the take is not next, by number", 1, z.implied(150, 1));
    }

    private static void impliedWrongInputs() {
        EventOrder x = withSources(1);
        Check.dueState("11 not settled", () -> x.implied(100, 0));
        Check.dueIndex("11 bag before state", () -> x.implied(99, 0));
        x.settle();
        Check.due("11 none", 0, x.implied(100, 0));
        Check.due("11 none", 0, x.implied(199, 99));
        Check.dueIndex("11 bag 99", () -> x.implied(99, 0));
        Check.dueIndex("11 bag 200", () -> x.implied(200, 0));
        Check.dueIndex("11 bag -1", () -> x.implied(-1, 0));
        Check.dueIndex("11 item 100", () -> x.implied(100, 100));
        Check.dueIndex("11 item 200", () -> x.implied(100, 200));
        Check.dueIndex("11 item -1", () -> x.implied(100, -1));
    }

    private static void correct() {
        EventOrder x = withSources(1);
        x.event(0, 0, 0, 0, 5);
        x.event(0, 0, 0, 0, 6);
        x.event(0, 0, 0, 1, 7);
        x.need(1, 2);
        x.settle();
        Check.due("12 its own clock", 0, x.correct(1, 5));
        Check.due("12 the clock of one that is the same then", 0, x.correct(1, 6));
        Check.due("12 still settled", 5, x.corrected(1));
        Check.dueIndex("12 event 0", () -> x.correct(0, 1));
        Check.dueIndex("12 event 4", () -> x.correct(4, 1));
        Check.dueIndex("12 event before clock", () -> x.correct(4, TOP + 1));
        Check.dueArgument("12 clock above", () -> x.correct(1, TOP + 1));
        Check.dueArgument("12 clock below", () -> x.correct(1, -TOP - 1));
        Check.due("12 still settled", 5, x.corrected(1));
        Check.due("12 the clock of one at another place", 1, x.correct(1, 7));
        Check.due("12 a ring by it", -1, x.settle());
        Check.due("12 highest", 1, x.correct(2, TOP));
        Check.due("12 lowest", 1, x.correct(1, -TOP));
        Check.due("12 settle", 1, x.settle());
        Check.due("12 highest", TOP, x.corrected(2));
        Check.due("12 lowest", -TOP, x.corrected(1));
        x.event(0, 40, 3, 50, 0);
        x.event(0, 40, 3, 50, 1);
        Check.due("12 all the same, with other numbers than 0", 0, x.correct(4, 1));
        Check.due("12 what it was can come again", 6, x.event(0, 0, 0, 0, 5));
        Check.due("12 what it is cannot", 0, x.event(0, 0, 0, 0, -TOP));
    }

    private static void ask() {
        EventOrder x = withSources(3);
        x.event(0, 10, 3, 20, 0);
        x.event(2, 10, 3, 30, 0);
        x.event(2, 11, 7, 30, 0);
        x.event(2, 0, 0, 0, 0);
        Check.due("13 item", 2, x.ask(0, 10));
        Check.due("13 item 0", 1, x.ask(0, 0));
        Check.due("13 place", 2, x.ask(1, 30));
        Check.due("13 place 0", 1, x.ask(1, 0));
        Check.due("13 source", 3, x.ask(2, 2));
        Check.due("13 source without events", 0, x.ask(2, 1));
        Check.due("13 kind", 2, x.ask(3, 3));
        Check.due("13 kind 0", 1, x.ask(3, 0));
        for (int kind = 0; kind <= 3; kind++) {
            Check.due("13 of -1", 0, x.ask(kind, -1));
            Check.due("13 of 200", 0, x.ask(kind, 200));
            Check.due("13 of the least", 0, x.ask(kind, Integer.MIN_VALUE));
        }
        Check.dueArgument("13 kind -1", () -> x.ask(-1, 0));
        Check.dueArgument("13 kind 4", () -> x.ask(4, 0));
        Check.dueArgument("13 kind least", () -> x.ask(Integer.MIN_VALUE, -1));
    }
}
