import java.util.function.Supplier;

/** Each sentence of the paragraph on exceptions at the end of "Terms": a test of its own. */
public final class ExceptionsTest {
    private static final long TOP = Given.TOP;
    private static final int LEAST = Integer.MIN_VALUE;
    private static final int MOST = Integer.MAX_VALUE;

    public static void main(String[] args) {
        Check.sentence("A call that throws changes nothing (wrong numbers)", ExceptionsTest::wrongNumberChangesNothing);
        Check.sentence("A call that throws changes nothing (not settled)", ExceptionsTest::wrongStateChangesNothing);
        Check.sentence("A call that throws changes nothing (no room)", ExceptionsTest::noRoomChangesNothing);
        Check.sentence("of several exceptions the one named first is thrown (event)", ExceptionsTest::firstOfEvent);
        Check.sentence("of several exceptions the one named first is thrown (need)", ExceptionsTest::firstOfNeed);
        Check.sentence("of several exceptions the one named first is thrown (questions)", ExceptionsTest::firstOfQuestions);
        Check.sentence("of several exceptions the one named first is thrown (correct)", ExceptionsTest::firstOfCorrect);
        Check.sentence("IndexOutOfBoundsException: there is no such source", ExceptionsTest::noSuchSource);
        Check.sentence("IndexOutOfBoundsException: there is no such .. event", ExceptionsTest::noSuchEvent);
        Check.sentence("IndexOutOfBoundsException: there is no such .. item", ExceptionsTest::noSuchItem);
        Check.sentence("IndexOutOfBoundsException: there is no such .. bag", ExceptionsTest::noSuchBag);
        Check.sentence("IllegalArgumentException: another number is out of its range", ExceptionsTest::outOfRange);
        Check.sentence("IllegalStateException: it is not settled without a ring", ExceptionsTest::notSettled);
        Check.sentence("UnsupportedOperationException: there is no room", ExceptionsTest::noRoom);
        Check.end();
    }

    private interface Refused {
        long by(EventOrder x);
    }

    /** Two sources, three events of which the first puts item 1 into bag 100, and one need. */
    private static EventOrder unsettled() {
        EventOrder x = Given.sources(2);
        x.event(0, 1, 1, 100, 0);
        x.event(1, 100, 0, 0, 0);
        x.event(0, 1, 2, 100, 9);
        x.need(1, 2);
        return x;
    }

    private static EventOrder settled() {
        EventOrder x = unsettled();
        Check.due("settle", 1, x.settle());
        return x;
    }

    private static EventOrder ringed() {
        EventOrder x = unsettled();
        x.need(2, 1);
        Check.due("settle", -2, x.settle());
        return x;
    }

    private static EventOrder settledBefore() {
        EventOrder x = settled();
        x.need(2, 3);
        return x;
    }

    private static EventOrder fullOfSources() {
        EventOrder x = Given.sources(16);
        x.event(15, 1, 0, 0, 0);
        x.settle();
        return x;
    }

    private static EventOrder fullOfEvents() {
        EventOrder x = Given.sources(2);
        for (int i = 0; i < 300; i++) {
            x.event(0, 1, 0, 0, i);
        }
        x.settle();
        return x;
    }

    private static EventOrder fullOfNeeds() {
        EventOrder x = unsettled();
        for (int i = 1; i < 300; i++) {
            x.need(1, 2);
        }
        x.settle();
        return x;
    }

    /** What it answers now and, since a wrong count may show only later, when more comes. */
    private static String allAnswers(EventOrder x) {
        String now = answers(x);
        String more = Check.told(() -> x.event(0, 150, 0, 0, 7)) + " " + Check.told(() -> x.need(1, 2)) + " "
                + Check.told(x::source) + " " + Check.told(x::settle);
        return now + " / " + more + " / " + answers(x);
    }

    private static String answers(EventOrder x) {
        StringBuilder text = new StringBuilder();
        for (int i = 0; i <= 2; i++) {
            int at = i;
            text.append(Check.told(() -> x.ring(at))).append(' ');
            text.append(Check.told(() -> x.offset(at))).append(' ');
            text.append(Check.told(() -> x.bound(at, 1))).append(' ');
            text.append(Check.told(() -> x.corrected(at + 1))).append(' ');
            text.append(Check.told(() -> x.ordered(1, at))).append(' ');
            text.append(Check.told(() -> x.ask(at, 1))).append(' ');
        }
        text.append(Check.told(() -> x.bound(0, 0))).append(' ');
        text.append(Check.told(() -> x.implied(100, 1))).append(' ');
        text.append(Check.told(() -> x.ordered(100, 0))).append(' ');
        text.append(Check.told(() -> x.ask(0, 100))).append(' ');
        text.append(Check.told(() -> x.ask(2, 0))).append(' ');
        text.append(Check.told(() -> x.ask(3, 0)));
        return text.toString();
    }

    /** Against another object that was made in the same way and did not have the call. */
    private static void dueUnchanged(String what, Supplier<EventOrder> made, Refused call) {
        EventOrder x = made.get();
        String answer = Check.told(() -> call.by(x));
        Check.due(what + " answered " + answer + ", thrown", 1, answer.startsWith("throws.") ? 1 : 0);
        Check.dueText("after " + what, allAnswers(made.get()), allAnswers(x));
    }

    private static void wrongNumberChangesNothing(Supplier<EventOrder> made) {
        dueUnchanged("event, no source", made, x -> x.event(2, 1, 0, 0, 5));
        dueUnchanged("event, no item", made, x -> x.event(0, 200, 0, 0, 5));
        dueUnchanged("event, kind", made, x -> x.event(0, 1, 8, 0, 5));
        dueUnchanged("event, place", made, x -> x.event(0, 1, 0, 200, 5));
        dueUnchanged("event, clock", made, x -> x.event(0, 1, 0, 0, TOP + 1));
        dueUnchanged("event, a bag into a bag", made, x -> x.event(0, 100, 1, 101, 5));
        dueUnchanged("event, out of no bag", made, x -> x.event(0, 1, 2, 0, 5));
        dueUnchanged("need, no first", made, x -> x.need(0, 1));
        dueUnchanged("need, no second", made, x -> x.need(1, 4));
        dueUnchanged("need, the same", made, x -> x.need(2, 2));
        dueUnchanged("offset", made, x -> x.offset(2));
        dueUnchanged("bound", made, x -> x.bound(0, 2));
        dueUnchanged("corrected", made, x -> x.corrected(4));
        dueUnchanged("ordered", made, x -> x.ordered(200, 0));
        dueUnchanged("implied", made, x -> x.implied(99, 1));
        dueUnchanged("correct, no event", made, x -> x.correct(4, 5));
        dueUnchanged("correct, clock", made, x -> x.correct(1, -TOP - 1));
        dueUnchanged("ask", made, x -> x.ask(4, 0));
    }

    private static void wrongNumberChangesNothing() {
        wrongNumberChangesNothing(ExceptionsTest::unsettled);
        wrongNumberChangesNothing(ExceptionsTest::settled);
        wrongNumberChangesNothing(ExceptionsTest::ringed);
    }

    private static void wrongStateChangesNothing(Supplier<EventOrder> made) {
        dueUnchanged("offset", made, x -> x.offset(0));
        dueUnchanged("bound", made, x -> x.bound(0, 0));
        dueUnchanged("corrected", made, x -> x.corrected(1));
        dueUnchanged("ordered", made, x -> x.ordered(1, 0));
        dueUnchanged("implied", made, x -> x.implied(100, 1));
    }

    private static void wrongStateChangesNothing() {
        wrongStateChangesNothing(ExceptionsTest::unsettled);
        wrongStateChangesNothing(ExceptionsTest::settledBefore);
        wrongStateChangesNothing(ExceptionsTest::ringed);
    }

    private static void noRoomChangesNothing() {
        dueUnchanged("source", ExceptionsTest::fullOfSources, EventOrder::source);
        dueUnchanged("event", ExceptionsTest::fullOfEvents, x -> x.event(1, 1, 0, 0, 500));
        dueUnchanged("need", ExceptionsTest::fullOfNeeds, x -> x.need(2, 3));
    }

    /** Wrong kinds, places and clocks, and the pairs of item and place that kinds 1 and 2 refuse. */
    private static void wrongArgumentsOf(EventOrder x, String what, int source, int item) {
        Check.dueIndex(what + " and kind", () -> x.event(source, item, 8, 100, 1));
        Check.dueIndex(what + " and place", () -> x.event(source, item, 0, 200, 1));
        Check.dueIndex(what + " and clock", () -> x.event(source, item, 0, 100, TOP + 1));
        Check.dueIndex(what + " and a place that is no bag", () -> x.event(source, item, 1, 99, 1));
        Check.dueIndex(what + " and all", () -> x.event(source, item, -1, -1, -TOP - 1));
    }

    private static void firstOfEvent() {
        EventOrder x = settled();
        wrongArgumentsOf(x, "source", 2, 1);
        wrongArgumentsOf(x, "item", 0, 200);
        wrongArgumentsOf(x, "item", 0, -1);
        wrongArgumentsOf(x, "source and item", -1, 200);
        Check.dueIndex("source and a bag into a bag", () -> x.event(2, 100, 1, 101, 1));
        EventOrder full = fullOfEvents();
        wrongArgumentsOf(full, "no room, source", 2, 1);
        wrongArgumentsOf(full, "no room, item", 0, 200);
        Check.dueIndex("no room, and source", () -> full.event(2, 1, 0, 0, 500));
        Check.dueIndex("no room, and item", () -> full.event(0, 200, 0, 0, 500));
        Check.dueArgument("no room, and kind", () -> full.event(0, 1, 8, 0, 500));
        Check.dueArgument("no room, and place", () -> full.event(0, 1, 0, -1, 500));
        Check.dueArgument("no room, and clock", () -> full.event(0, 1, 0, 0, TOP + 1));
        Check.dueArgument("no room, and a bag into a bag", () -> full.event(0, 100, 1, 101, 500));
        Check.dueArgument("no room, and out of no bag", () -> full.event(0, 1, 2, 99, 500));
    }

    private static void firstOfNeed() {
        EventOrder x = settled();
        Check.dueIndex("the same event 0", () -> x.need(0, 0));
        Check.dueIndex("the same event 4", () -> x.need(4, 4));
        EventOrder full = fullOfNeeds();
        Check.dueIndex("no room, and no first", () -> full.need(0, 1));
        Check.dueIndex("no room, and no second", () -> full.need(1, 4));
        Check.dueIndex("no room, and the same event 4", () -> full.need(4, 4));
        Check.dueArgument("no room, and the same", () -> full.need(3, 3));
    }

    private static void firstOfQuestions(EventOrder x) {
        Check.dueIndex("offset(2)", () -> x.offset(2));
        Check.dueIndex("offset(-1)", () -> x.offset(-1));
        Check.dueIndex("bound(2, 0)", () -> x.bound(2, 0));
        Check.dueIndex("bound(0, 2)", () -> x.bound(0, 2));
        Check.dueIndex("bound(-1, -1)", () -> x.bound(-1, -1));
        Check.dueIndex("corrected(0)", () -> x.corrected(0));
        Check.dueIndex("corrected(4)", () -> x.corrected(4));
        Check.dueIndex("ordered(-1, 0)", () -> x.ordered(-1, 0));
        Check.dueIndex("ordered(200, -1)", () -> x.ordered(200, -1));
        Check.dueIndex("implied(99, 1)", () -> x.implied(99, 1));
        Check.dueIndex("implied(200, 1)", () -> x.implied(200, 1));
        Check.dueIndex("implied(100, 100)", () -> x.implied(100, 100));
        Check.dueIndex("implied(100, -1)", () -> x.implied(100, -1));
    }

    private static void firstOfQuestions() {
        firstOfQuestions(unsettled());
        firstOfQuestions(settledBefore());
        firstOfQuestions(ringed());
    }

    private static void firstOfCorrect() {
        EventOrder x = settled();
        Check.dueIndex("event 0 and clock", () -> x.correct(0, TOP + 1));
        Check.dueIndex("event 4 and clock", () -> x.correct(4, -TOP - 1));
        Check.dueIndex("event -1 and clock", () -> x.correct(-1, Long.MIN_VALUE));
    }

    private static void noSuchSource() {
        EventOrder x = settled();
        for (int source : new int[] {-1, 2, 16, MOST, LEAST}) {
            Check.dueIndex("event, " + source, () -> x.event(source, 1, 0, 0, 0));
            Check.dueIndex("offset, " + source, () -> x.offset(source));
            Check.dueIndex("bound from " + source, () -> x.bound(source, 0));
            Check.dueIndex("bound to " + source, () -> x.bound(0, source));
        }
        EventOrder full = fullOfSources();
        Check.due("the last source", 0, full.offset(15));
        Check.dueIndex("offset(16)", () -> full.offset(16));
        Check.dueIndex("bound(16, 0)", () -> full.bound(16, 0));
        Check.dueIndex("bound(0, 16)", () -> full.bound(0, 16));
        Check.dueIndex("event of 16", () -> full.event(16, 0, 0, 0, 0));
    }

    private static void noSuchEvent() {
        EventOrder x = settled();
        for (int event : new int[] {-1, 0, 4, 301, MOST, LEAST}) {
            Check.dueIndex("need, first " + event, () -> x.need(event, 1));
            Check.dueIndex("need, second " + event, () -> x.need(1, event));
            Check.dueIndex("corrected, " + event, () -> x.corrected(event));
            Check.dueIndex("correct, " + event, () -> x.correct(event, 0));
        }
        EventOrder full = fullOfEvents();
        Check.due("the last event", 299, full.corrected(300));
        Check.dueIndex("corrected(301)", () -> full.corrected(301));
        Check.dueIndex("correct(301, 0)", () -> full.correct(301, 0));
        Check.dueIndex("need(301, 1)", () -> full.need(301, 1));
        Check.dueIndex("need(1, 301)", () -> full.need(1, 301));
        EventOrder none = Given.sources(1);
        none.settle();
        Check.dueIndex("corrected(1) without events", () -> none.corrected(1));
        Check.dueIndex("correct(1, 0) without events", () -> none.correct(1, 0));
        Check.dueIndex("need(1, 2) without events", () -> none.need(1, 2));
    }

    private static void noSuchItem() {
        EventOrder x = settled();
        for (int item : new int[] {-1, 200, MOST, LEAST}) {
            Check.dueIndex("event, " + item, () -> x.event(0, item, 0, 0, 0));
            Check.dueIndex("ordered, " + item, () -> x.ordered(item, 0));
            Check.dueIndex("implied, " + item, () -> x.implied(100, item));
        }
        Check.due("ordered, 199", 0, x.ordered(199, 0));
        Check.due("ordered, 0", 0, x.ordered(0, 0));
    }

    private static void noSuchBag() {
        EventOrder x = settled();
        for (int bag : new int[] {-1, 0, 99, 200, MOST, LEAST}) {
            Check.dueIndex("implied, " + bag, () -> x.implied(bag, 1));
        }
        Check.due("implied, 100", 1, x.implied(100, 1));
        Check.due("implied, 199", 0, x.implied(199, 1));
    }

    private static void outOfRange() {
        EventOrder x = settled();
        for (int number : new int[] {-1, 200, MOST, LEAST}) {
            Check.dueArgument("event, kind " + number, () -> x.event(0, 1, number, 100, 0));
            Check.dueArgument("event, place " + number, () -> x.event(0, 1, 0, number, 0));
            Check.dueArgument("put into " + number, () -> x.event(0, 1, 1, number, 0));
            Check.dueArgument("ask, kind " + number, () -> x.ask(number, 0));
        }
        Check.dueArgument("event, kind 8", () -> x.event(0, 1, 8, 100, 0));
        Check.dueArgument("ask, kind 4", () -> x.ask(4, 0));
        for (long clock : new long[] {-TOP - 1, TOP + 1, Long.MIN_VALUE, Long.MAX_VALUE}) {
            Check.dueArgument("event, clock " + clock, () -> x.event(0, 1, 0, 0, clock));
            Check.dueArgument("correct, clock " + clock, () -> x.correct(1, clock));
        }
    }

    private static void notSettled() {
        Given.dueUnsettled("never settled", unsettled());
        Given.dueUnsettled("settled before a need", settledBefore());
        Given.dueUnsettled("with a ring", ringed());
        EventOrder x = settled();
        x.need(2, 3);
        x.correct(3, 0);
        Check.due("a ring", -2, x.settle());
        Given.dueUnsettled("settled, then with a ring", x);
        x.correct(3, 9);
        Given.dueUnsettled("a correction that ends the ring at the next settle", x);
        Check.due("no ring", 1, x.settle());
        Check.due("settled again", 0, x.offset(0));
        EventOrder y = new EventOrder();
        Check.dueState("a new object, ordered", () -> y.ordered(0, 0));
        Check.dueState("a new object, implied", () -> y.implied(100, 0));
    }

    private static void noRoom() {
        EventOrder sources = fullOfSources();
        Check.dueNoRoom("source", sources::source);
        Check.due("an event has room", 2, sources.event(15, 1, 0, 0, 1));
        EventOrder events = fullOfEvents();
        Check.dueNoRoom("event", () -> events.event(0, 1, 0, 0, 300));
        Check.dueNoRoom("event of another source", () -> events.event(1, 1, 0, 0, 0));
        Check.due("a need has room", 1, events.need(1, 300));
        Check.due("a source has room", 2, events.source());
        Check.due("a correction needs none", 1, events.correct(300, 1000));
        Check.dueNoRoom("what the event was needs it", () -> events.event(0, 1, 0, 0, 299));
        EventOrder needs = fullOfNeeds();
        Check.dueNoRoom("need", () -> needs.need(1, 2));
        Check.dueNoRoom("another need", () -> needs.need(2, 3));
        Check.due("an event has room", 4, needs.event(0, 1, 0, 0, 0));
    }
}
