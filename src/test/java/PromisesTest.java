/** Each sentence of promises 1 to 13: ordinary calls, the edges it names, and wrong inputs. */
public final class PromisesTest {
    private static final long TOP = Given.TOP;
    private static final long FAR = EventOrder.FAR;
    private static final int NONE = EventOrder.NONE;
    private static final int LEAST = Integer.MIN_VALUE;
    private static final int MOST = Integer.MAX_VALUE;

    public static void main(String[] args) {
        Check.sentence("at most 512 calls", PromisesTest::allCalls);
        Check.sentence("1: No sources", PromisesTest::newObject);
        Check.sentence("2: A source more: its number", PromisesTest::sourceNumbers);
        Check.sentence("2: UnsupportedOperationException", PromisesTest::sourceNoRoom);
        eventSentences();
        needSentences();
        settleAndRingSentences();
        offsetAndBoundSentences();
        Check.sentence("9: An event's corrected time", PromisesTest::corrected);
        Check.sentence("9: IndexOutOfBoundsException", PromisesTest::correctedWrongEvents);
        Check.sentence("9: IllegalStateException", PromisesTest::correctedNotSettled);
        orderedAndImpliedSentences();
        correctSentences();
        Check.sentence("13: How many events there are of an item (kind = 0), place (1), source (2), kind (3)",
                PromisesTest::ask);
        Check.sentence("13: (0 for numbers that there are not)", PromisesTest::askNoSuchNumbers);
        Check.sentence("13: IllegalArgumentException when kind is not 0 .. 3", PromisesTest::askWrongKinds);
        Check.end();
    }

    private static void eventSentences() {
        Check.sentence("3: An event more: its number", PromisesTest::eventNumbers);
        Check.sentence("3: 0, and none comes, if there is one with the same", PromisesTest::eventSameAgain);
        Check.sentence("3: (whether there is room or not)", PromisesTest::eventSameWithoutRoom);
        Check.sentence("3: IndexOutOfBoundsException (source, item)", PromisesTest::eventWrongSourceOrItem);
        Check.sentence("3: IllegalArgumentException (kind, place, clock", PromisesTest::eventWrongArguments);
        Check.sentence("3: for kinds 1 and 2 also an item that is a bag", PromisesTest::eventOfABag);
        Check.sentence("3: or a place that is none", PromisesTest::eventAtNoBag);
        Check.sentence("3: UnsupportedOperationException", PromisesTest::eventNoRoom);
    }

    private static void needSentences() {
        Check.sentence("4: A need more: how many there are", PromisesTest::needCount);
        Check.sentence("4: IndexOutOfBoundsException", PromisesTest::needWrongEvents);
        Check.sentence("4: IllegalArgumentException when both are the same event", PromisesTest::needSameEvent);
        Check.sentence("4: UnsupportedOperationException", PromisesTest::needNoRoom);
    }

    private static void settleAndRingSentences() {
        Check.sentence("5: It is SETTLED: 1", PromisesTest::settleWithoutRing);
        Check.sentence("5: with a ring, minus how many sources that has", PromisesTest::settleWithRing);
        Check.sentence("6: Source i of the ring that settle told latest", PromisesTest::ringLatest);
        Check.sentence("6: (whatever came since)", PromisesTest::ringWhateverCame);
        Check.sentence("6: NONE when there is none such", PromisesTest::ringNoSuch);
        Check.sentence("6: or it told none", PromisesTest::ringToldNone);
        Check.sentence("6: a ring of all sources", PromisesTest::ringOfAll);
        Check.sentence("6: every limit as low as clocks allow", PromisesTest::ringAtTheEnds);
    }

    private static void offsetAndBoundSentences() {
        Check.sentence("7: A source's offset", PromisesTest::offset);
        Check.sentence("7: IndexOutOfBoundsException", PromisesTest::offsetWrongSources);
        Check.sentence("7: IllegalStateException", PromisesTest::offsetNotSettled);
        Check.sentence("8: BOUND(a, b)", PromisesTest::bound);
        Check.sentence("8: FAR when there is no way", PromisesTest::boundNoWay);
        Check.sentence("8: IndexOutOfBoundsException", PromisesTest::boundWrongSources);
        Check.sentence("8: IllegalStateException", PromisesTest::boundNotSettled);
    }

    private static void orderedAndImpliedSentences() {
        Check.sentence("10: Event i (0 the first) of an item in ORDER", PromisesTest::ordered);
        Check.sentence("10: 0 when there is none such", PromisesTest::orderedNoSuch);
        Check.sentence("10: IndexOutOfBoundsException (item)", PromisesTest::orderedWrongItems);
        Check.sentence("10: IllegalStateException", PromisesTest::orderedNotSettled);
        Check.sentence("11: How many events of a bag are IMPLIED for an item", PromisesTest::implied);
        Check.sentence("11: (each once)", PromisesTest::impliedOnce);
        Check.sentence("11: IndexOutOfBoundsException (a bag that is none", PromisesTest::impliedWrongBags);
        Check.sentence("11: IndexOutOfBoundsException (an item that is one, too)", PromisesTest::impliedWrongItems);
        Check.sentence("11: IllegalStateException", PromisesTest::impliedNotSettled);
    }

    private static void correctSentences() {
        Check.sentence("12: An event's clock is another one: 1", PromisesTest::correct);
        Check.sentence("12: 0 if it is that already", PromisesTest::correctToItself);
        Check.sentence("12: or there is another event that has all of this then", PromisesTest::correctToAnother);
        Check.sentence("12: (nothing changes)", PromisesTest::correctChangesNothing);
        Check.sentence("12: IndexOutOfBoundsException", PromisesTest::correctWrongEvents);
        Check.sentence("12: IllegalArgumentException (clock)", PromisesTest::correctWrongClocks);
    }

    /** The last calls that are promised: 16, 300 and 195 before the one, 1, 2 and 507 before the others. */
    private static void allCalls() {
        EventOrder x = Given.sources(16);
        for (int i = 0; i < 300; i++) {
            x.event(i % 16, 0, 0, 0, 2 * (i / 16));
        }
        for (int i = 1; i <= 195; i++) {
            Check.due("need", i, x.need(i, i + 17));
        }
        Check.due("call 512", 1, x.settle());
        EventOrder y = Given.events(3, 5);
        for (int i = 0; i < 507; i++) {
            y.settle();
        }
        Check.due("call 511", 5, y.corrected(2));
        Check.due("call 512", 3, y.corrected(1));
    }

    private static void newObject() {
        EventOrder x = new EventOrder();
        Check.dueIndex("offset(0)", () -> x.offset(0));
        Check.dueIndex("bound(0, 0)", () -> x.bound(0, 0));
        Check.dueIndex("event of source 0", () -> x.event(0, 0, 0, 0, 0));
        Check.dueIndex("need(1, 2)", () -> x.need(1, 2));
        Check.dueIndex("corrected(1)", () -> x.corrected(1));
        Check.dueIndex("correct(1, 0)", () -> x.correct(1, 0));
        Check.dueState("ordered", () -> x.ordered(0, 0));
        Check.dueState("implied", () -> x.implied(100, 0));
        Check.due("ring", NONE, x.ring(0));
        for (int kind = 0; kind <= 3; kind++) {
            Check.due("ask " + kind, 0, x.ask(kind, 0));
        }
        Check.due("settle", 1, x.settle());
        Check.dueIndex("offset(0), settled", () -> x.offset(0));
        Check.due("ordered, settled", 0, x.ordered(0, 0));
        Check.due("implied, settled", 0, x.implied(100, 0));
        Check.due("the first source of another object", 0, new EventOrder().source());
    }

    private static void sourceNumbers() {
        EventOrder x = new EventOrder();
        for (int i = 0; i < 16; i++) {
            Check.due("source", i, x.source());
        }
        x.settle();
        Check.due("the last one's offset", 0, x.offset(15));
        Check.due("no events of it", 0, x.ask(2, 15));
    }

    private static void sourceNoRoom() {
        EventOrder x = Given.sources(16);
        x.settle();
        Check.dueNoRoom("one more", x::source);
        Check.dueNoRoom("again", x::source);
        Check.due("still settled", 0, x.offset(15));
        Check.dueIndex("none came", () -> x.offset(16));
    }

    private static void eventNumbers() {
        EventOrder x = Given.sources(2);
        Check.due("first", 1, x.event(0, 0, 0, 0, -TOP));
        Check.due("second", 2, x.event(1, 199, 7, 199, TOP));
        Check.due("into a bag", 3, x.event(1, 99, 1, 100, 0));
        Check.due("out of a bag", 4, x.event(1, 0, 2, 199, 0));
        Check.due("a bag at a place that is none", 5, x.event(1, 100, 3, 99, 0));
        Check.due("a bag in a bag by another kind", 6, x.event(1, 100, 0, 101, 0));
    }

    private static void eventSameAgain() {
        EventOrder x = Given.sources(2);
        Check.due("first", 1, x.event(0, 5, 3, 7, 9));
        Check.due("same", 0, x.event(0, 5, 3, 7, 9));
        Check.due("other source", 2, x.event(1, 5, 3, 7, 9));
        Check.due("other item", 3, x.event(0, 6, 3, 7, 9));
        Check.due("other kind", 4, x.event(0, 5, 4, 7, 9));
        Check.due("other place", 5, x.event(0, 5, 3, 8, 9));
        Check.due("other clock", 6, x.event(0, 5, 3, 7, 10));
        Check.due("same as the last", 0, x.event(0, 5, 3, 7, 10));
        Check.due("same as the first", 0, x.event(0, 5, 3, 7, 9));
        Check.due("none came of source 0", 5, x.ask(2, 0));
        Check.dueIndex("none came", () -> x.correct(7, 0));
        EventOrder y = Given.sources(1);
        Check.due("all of them 0", 1, y.event(0, 0, 0, 0, 0));
        Check.due("all of them 0 again", 0, y.event(0, 0, 0, 0, 0));
    }

    private static EventOrder fullOfEvents() {
        EventOrder x = Given.sources(1);
        for (int i = 1; i <= 300; i++) {
            x.event(0, 7, 0, 0, 300 - i);
        }
        return x;
    }

    private static void eventSameWithoutRoom() {
        EventOrder x = fullOfEvents();
        x.settle();
        Check.due("same as the last", 0, x.event(0, 7, 0, 0, 0));
        Check.due("same as the first", 0, x.event(0, 7, 0, 0, 299));
        Check.due("none came", 300, x.ask(0, 7));
        Check.due("still settled", 299, x.corrected(1));
    }

    private static void eventWrongSourceOrItem() {
        EventOrder x = Given.sources(1);
        for (int source : new int[] {-1, 1, 16, MOST, LEAST}) {
            Check.dueIndex("source " + source, () -> x.event(source, 0, 0, 0, 0));
        }
        for (int item : new int[] {-1, 200, MOST, LEAST}) {
            Check.dueIndex("item " + item, () -> x.event(0, item, 0, 0, 0));
        }
        Check.due("none came", 1, x.event(0, 0, 0, 0, 0));
    }

    private static void eventWrongArguments() {
        EventOrder x = Given.sources(1);
        for (int kind : new int[] {-1, 8, MOST, LEAST}) {
            Check.dueArgument("kind " + kind, () -> x.event(0, 0, kind, 100, 0));
        }
        for (int place : new int[] {-1, 200, MOST, LEAST}) {
            Check.dueArgument("place " + place, () -> x.event(0, 0, 0, place, 0));
        }
        for (long clock : new long[] {-TOP - 1, TOP + 1, 1L << 32, Long.MAX_VALUE, Long.MIN_VALUE}) {
            Check.dueArgument("clock " + clock, () -> x.event(0, 0, 0, 0, clock));
        }
        Check.due("none came", 1, x.event(0, 0, 0, 0, 0));
    }

    private static void eventOfABag() {
        EventOrder x = Given.sources(1);
        for (int kind = 1; kind <= 2; kind++) {
            int k = kind;
            Check.due("item 99, kind " + kind, kind, x.event(0, 99, kind, 199, 0));
            for (int bag : new int[] {100, 101, 199}) {
                Check.dueArgument("item " + bag + ", kind " + kind, () -> x.event(0, bag, k, 199, 0));
            }
        }
        for (int kind : new int[] {0, 3, 4, 5, 6, 7}) {
            Check.due("a bag, kind " + kind, 1, Math.min(1, x.event(0, 100, kind, 199, 0)));
        }
    }

    private static void eventAtNoBag() {
        EventOrder x = Given.sources(1);
        for (int kind = 1; kind <= 2; kind++) {
            int k = kind;
            Check.due("place 100, kind " + kind, kind, x.event(0, 0, kind, 100, 0));
            for (int place : new int[] {-1, 0, 98, 99, 200}) {
                Check.dueArgument("place " + place + ", kind " + kind, () -> x.event(0, 0, k, place, 0));
            }
        }
        for (int kind : new int[] {0, 3, 4, 5, 6, 7}) {
            Check.due("no bag, kind " + kind, 1, Math.min(1, x.event(0, 0, kind, 99, 0)));
        }
    }

    private static void eventNoRoom() {
        EventOrder x = fullOfEvents();
        x.settle();
        Check.dueNoRoom("event 301", () -> x.event(0, 7, 0, 0, 300));
        Check.due("all in order", 300, x.ordered(7, 0));
        Check.due("all in order", 1, x.ordered(7, 299));
        Check.due("none more", 0, x.ordered(7, 300));
        Check.due("none implied", 0, x.implied(100, 7));
        Check.due("count", 300, x.ask(0, 7));
        Check.dueIndex("event 301", () -> x.corrected(301));
        Check.due("a correction needs no room", 1, x.correct(300, 1000));
        Check.due("settle", 1, x.settle());
        Check.due("last now", 300, x.ordered(7, 299));
        Check.dueNoRoom("still", () -> x.event(0, 7, 0, 0, 0));
    }

    private static void needCount() {
        EventOrder x = Given.sources(2);
        x.event(0, 0, 0, 0, 0);
        x.event(1, 0, 0, 0, 0);
        Check.due("a need", 1, x.need(1, 2));
        Check.due("it again", 2, x.need(1, 2));
        Check.due("settle", 1, x.settle());
        Check.due("below, not equal", 1, x.offset(1));
        Check.due("the other way", 3, x.need(2, 1));
        Given.dueRing("both ways", x, 0, 1);
    }

    private static void needWrongEvents() {
        EventOrder x = Given.events(0, 5);
        x.settle();
        for (int event : new int[] {0, 3, -1, 301, MOST, LEAST}) {
            Check.dueIndex("first " + event, () -> x.need(event, 1));
            Check.dueIndex("second " + event, () -> x.need(1, event));
            Check.dueIndex("both " + event, () -> x.need(event, event));
        }
        Check.due("still settled", 0, x.offset(0));
        Check.due("none came", 1, x.need(1, 2));
    }

    private static void needSameEvent() {
        EventOrder x = Given.events(0, 5);
        x.settle();
        Check.dueArgument("1", () -> x.need(1, 1));
        Check.dueArgument("2", () -> x.need(2, 2));
        Check.due("still settled", 0, x.offset(0));
        Check.due("none came", 1, x.need(1, 2));
    }

    private static void needNoRoom() {
        EventOrder x = Given.events(0, 5);
        for (int i = 1; i <= 300; i++) {
            Check.due("need", i, x.need(1, 2));
        }
        x.settle();
        Check.dueNoRoom("need 301", () -> x.need(1, 2));
        Check.dueNoRoom("one that would make a ring", () -> x.need(2, 1));
        Check.due("still settled", 0, x.offset(0));
        Check.due("settle", 1, x.settle());
    }

    private static void settleWithoutRing() {
        Check.due("a new object", 1, new EventOrder().settle());
        EventOrder x = Given.sources(2);
        Check.due("without events", 1, x.settle());
        Given.limit(x, 0, 1, -5);
        Given.limit(x, 1, 0, 5);
        Check.due("a sum of 0 is no ring", 1, x.settle());
        Check.due("settled already", 1, x.settle());
        Check.due("settled", -5, x.bound(0, 1));
        EventOrder y = fullOfEvents();
        Check.due("as many events as there can be", 1, y.settle());
    }

    private static void settleWithRing() {
        EventOrder x = Given.sources(3);
        Given.limit(x, 0, 1, -1);
        Given.limit(x, 1, 2, 0);
        Given.limit(x, 2, 0, 0);
        Check.due("three", -3, x.settle());
        Check.due("three again", -3, x.settle());
        Given.limit(x, 1, 0, 0);
        Check.due("two", -2, x.settle());
        Given.limit(x, 2, 2, -1);
        Check.due("one", -1, x.settle());
    }

    private static void ringLatest() {
        EventOrder x = Given.sources(4);
        Given.limit(x, 3, 1, -1);
        Given.limit(x, 1, 2, -1);
        Given.limit(x, 2, 3, -1);
        Given.dueRing("the first", x, 1, 2, 3);
        Given.limit(x, 3, 2, 0);
        Given.dueRing("a shorter one", x, 2, 3);
        Check.due("nothing is left of the longer one", NONE, x.ring(2));
        Given.limit(x, 0, 3, 7);
        Given.limit(x, 3, 0, -8);
        Given.dueRing("one with a lesser source", x, 0, 3);
    }

    private static void dueLatestRing(String what, EventOrder x) {
        Check.due(what + ", ring(0)", 0, x.ring(0));
        Check.due(what + ", ring(1)", 1, x.ring(1));
        Check.due(what + ", ring(2)", NONE, x.ring(2));
    }

    private static void ringWhateverCame() {
        EventOrder x = Given.sources(2);
        Given.limit(x, 0, 1, -1);
        Given.limit(x, 1, 0, 0);
        Given.dueRing("ring", x, 0, 1);
        x.source();
        dueLatestRing("a source", x);
        x.event(2, 50, 0, 0, 0);
        dueLatestRing("an event", x);
        x.need(5, 1);
        dueLatestRing("a need", x);
        x.correct(1, -100);
        dueLatestRing("a correction that ends it", x);
        Check.dueState("a refused call", () -> x.offset(0));
        dueLatestRing("a refused call", x);
    }

    private static void ringNoSuch() {
        EventOrder x = Given.sources(2);
        Given.limit(x, 0, 1, -1);
        Given.limit(x, 1, 0, 0);
        Check.due("settle", -2, x.settle());
        for (int i : new int[] {-1, 2, 3, 15, 16, 17, MOST, LEAST}) {
            Check.due("ring(" + i + ")", NONE, x.ring(i));
        }
    }

    private static void ringToldNone() {
        EventOrder x = Given.sources(2);
        for (int i : new int[] {-1, 0, 1, 15, 16, MOST, LEAST}) {
            Check.due("before any settle, ring(" + i + ")", NONE, x.ring(i));
        }
        Given.limit(x, 0, 1, -1);
        Given.limit(x, 1, 0, 0);
        Check.due("before a settle would tell it", NONE, x.ring(0));
        Check.due("settle", -2, x.settle());
        x.correct(1, -100);
        Check.due("settle without a ring", 1, x.settle());
        for (int i : new int[] {-1, 0, 1, 2, 16, MOST, LEAST}) {
            Check.due("behind it, ring(" + i + ")", NONE, x.ring(i));
        }
    }

    private static void ringOfAll() {
        EventOrder x = Given.sources(16);
        int[] row = {0, 2, 4, 6, 8, 10, 12, 14, 15, 13, 11, 9, 7, 5, 3, 1};
        for (int i = 0; i < 16; i++) {
            Given.limit(x, row[i], row[(i + 1) % 16], i == 9 ? -16 : 1);
        }
        Given.dueRing("sixteen", x, row);
        Check.due("behind sixteen", NONE, x.ring(16));
    }

    /** Sums over such limits would wrap round if they went on past the first ring. */
    private static void ringAtTheEnds() {
        EventOrder x = Given.sources(16);
        for (int s = 0; s < 16; s++) {
            x.event(s, 0, 0, 0, TOP);
            x.event(s, 0, 0, 0, -TOP);
        }
        for (int a = 0; a < 16; a++) {
            for (int b = 0; b < 16; b++) {
                if (a != b) {
                    x.need(2 * a + 1, 2 * b + 2);
                }
            }
        }
        Given.dueRing("all pairs", x, 0, 1);
    }

    private static void offset() {
        EventOrder x = Given.sources(3);
        Given.limit(x, 1, 0, -7);
        Check.due("settle", 1, x.settle());
        Check.due("the first", 0, x.offset(0));
        Check.due("from above", -7, x.offset(1));
        Check.due("free", 0, x.offset(2));
        Given.limit(x, 1, 2, -10);
        Check.due("settle", 1, x.settle());
        Check.due("from below, with an offset added", 3, x.offset(2));
        Given.limit(x, 2, 0, 1);
        x.settle();
        Check.due("source 1 is bound through 2", -9, x.offset(1));
        Check.due("source 2 then", 1, x.offset(2));
        EventOrder y = Given.sources(16);
        for (int s = 0; s < 15; s++) {
            Given.limit(y, s, s + 1, Given.LOWEST);
        }
        y.settle();
        Check.due("as high as it can be", -15 * Given.LOWEST, y.offset(15));
    }

    private static void offsetWrongSources() {
        EventOrder x = Given.sources(3);
        x.settle();
        Check.due("the last", 0, x.offset(2));
        for (int source : new int[] {-1, 3, 16, MOST, LEAST}) {
            Check.dueIndex("offset(" + source + ")", () -> x.offset(source));
        }
    }

    private static void offsetNotSettled() {
        EventOrder x = Given.sources(1);
        Check.dueState("never", () -> x.offset(0));
        x.settle();
        Check.due("settled", 0, x.offset(0));
        Given.limit(x, 0, 0, -1);
        Check.dueState("a need since", () -> x.offset(0));
        x.settle();
        Check.dueState("with a ring", () -> x.offset(0));
    }

    private static void bound() {
        EventOrder x = Given.sources(4);
        Given.limit(x, 0, 1, 10);
        Given.limit(x, 0, 1, 12);
        Given.limit(x, 1, 2, -3);
        Given.limit(x, 0, 2, 20);
        Given.limit(x, 2, 0, 30);
        Given.limit(x, 1, 1, 6);
        Check.due("settle", 1, x.settle());
        Check.due("the least of two needs", 10, x.bound(0, 1));
        Check.due("by a way", 7, x.bound(0, 2));
        Check.due("round", 40, x.bound(2, 1));
        Check.due("to itself", 0, x.bound(1, 1));
        Check.due("to itself without needs", 0, x.bound(3, 3));
    }

    private static void boundNoWay() {
        EventOrder x = Given.sources(3);
        x.settle();
        Check.due("without needs", FAR, x.bound(0, 2));
        Given.limit(x, 0, 1, Given.LOWEST);
        Given.limit(x, 2, 1, Given.HIGHEST);
        x.settle();
        Check.due("there", Given.LOWEST, x.bound(0, 1));
        Check.due("but not back", FAR, x.bound(1, 0));
        Check.due("one that meets another", FAR, x.bound(0, 2));
        Check.due("and from there", FAR, x.bound(2, 0));
        x.source();
        x.settle();
        Check.due("to a new source", FAR, x.bound(0, 3));
        Check.due("from a new source", FAR, x.bound(3, 1));
    }

    private static void boundWrongSources() {
        EventOrder x = Given.sources(4);
        x.settle();
        Check.due("the last", 0, x.bound(3, 3));
        for (int source : new int[] {-1, 4, 16, MOST, LEAST}) {
            Check.dueIndex("from " + source, () -> x.bound(source, 0));
            Check.dueIndex("to " + source, () -> x.bound(0, source));
            Check.dueIndex("from and to " + source, () -> x.bound(source, source));
        }
    }

    private static void boundNotSettled() {
        EventOrder x = Given.sources(1);
        Check.dueState("never", () -> x.bound(0, 0));
        x.settle();
        Check.due("settled", 0, x.bound(0, 0));
        Given.limit(x, 0, 0, -1);
        Check.dueState("a need since", () -> x.bound(0, 0));
        x.settle();
        Check.dueState("with a ring", () -> x.bound(0, 0));
    }

    private static void corrected() {
        EventOrder x = Given.sources(2);
        x.event(0, 0, 0, 0, TOP);
        x.event(1, 0, 0, 0, -TOP);
        x.event(1, 0, 0, 0, 17);
        x.need(1, 2);
        x.settle();
        Check.due("first", TOP, x.corrected(1));
        Check.due("second", TOP + 1, x.corrected(2));
        Check.due("same source", 2 * TOP + 18, x.corrected(3));
        EventOrder y = Given.sources(16);
        for (int s = 0; s < 15; s++) {
            Given.limit(y, s, s + 1, Given.LOWEST);
        }
        int last = y.event(15, 50, 0, 0, TOP);
        y.settle();
        Check.due("as late as it can be", TOP - 15 * Given.LOWEST, y.corrected(last));
    }

    private static void correctedWrongEvents() {
        EventOrder x = Given.events(0, 5, 9);
        x.settle();
        Check.due("the first", 0, x.corrected(1));
        Check.due("the last", 9, x.corrected(3));
        for (int event : new int[] {0, 4, -1, 300, 301, MOST, LEAST}) {
            Check.dueIndex("corrected(" + event + ")", () -> x.corrected(event));
        }
    }

    private static void correctedNotSettled() {
        EventOrder x = Given.events(5, 5);
        Check.dueState("never", () -> x.corrected(1));
        x.settle();
        Check.due("settled", 5, x.corrected(1));
        Given.limit(x, 0, 0, -1);
        Check.dueState("a need since", () -> x.corrected(1));
        x.settle();
        Check.dueState("with a ring", () -> x.corrected(1));
    }

    private static void ordered() {
        EventOrder x = Given.sources(2);
        x.event(0, 9, 0, 50, 10);
        x.event(0, 9, 0, 40, 10);
        x.event(0, 9, 4, 50, 10);
        x.event(0, 9, 3, 40, 10);
        x.event(0, 9, 0, 199, 9);
        x.event(1, 9, 0, 0, 0);
        x.event(1, 199, 0, 0, 0);
        x.need(1, 6);
        x.settle();
        int[] due = {5, 2, 4, 1, 3, 6, 0};
        for (int i = 0; i < due.length; i++) {
            Check.due("by time, place, number", due[i], x.ordered(9, i));
        }
        Check.due("a bag", 7, x.ordered(199, 0));
    }

    private static void orderedNoSuch() {
        EventOrder x = Given.events(3, 2, 1);
        x.settle();
        Check.due("the last", 1, x.ordered(0, 2));
        for (int i : new int[] {-1, 3, 4, 300, MOST, LEAST}) {
            Check.due("ordered(0, " + i + ")", 0, x.ordered(0, i));
        }
        Check.due("an item without events", 0, x.ordered(1, 0));
        Check.due("a bag without events", 0, x.ordered(199, 0));
        EventOrder full = fullOfEvents();
        full.settle();
        Check.due("the last of all", 1, full.ordered(7, 299));
        Check.due("behind the last of all", 0, full.ordered(7, 300));
    }

    private static void orderedWrongItems() {
        EventOrder x = Given.events(3, 2, 1);
        x.settle();
        for (int item : new int[] {-1, 200, MOST, LEAST}) {
            Check.dueIndex("ordered(" + item + ", 0)", () -> x.ordered(item, 0));
            Check.dueIndex("ordered(" + item + ", -1)", () -> x.ordered(item, -1));
        }
    }

    private static void orderedNotSettled() {
        EventOrder x = Given.events(5);
        Check.dueState("never", () -> x.ordered(0, 0));
        Check.dueState("never, and there is none such", () -> x.ordered(1, -1));
        x.settle();
        Check.due("settled", 1, x.ordered(0, 0));
        Given.limit(x, 0, 0, -1);
        Check.dueState("a need since", () -> x.ordered(0, 0));
        x.settle();
        Check.dueState("with a ring", () -> x.ordered(0, 0));
    }

    private static void implied() {
        EventOrder x = Given.sources(1);
        x.event(0, 1, 1, 100, 10);
        x.event(0, 1, 2, 100, 30);
        x.event(0, 2, 2, 100, 15);
        x.event(0, 1, 2, 101, 12);
        x.event(0, 1, 0, 100, 13);
        for (int t = 5; t <= 45; t += 5) {
            x.event(0, 100, 0, 0, t);
        }
        x.settle();
        Check.due("put in and taken out", 4, x.implied(100, 1));
        Check.due("taken out only", 0, x.implied(100, 2));
        Check.due("never there", 0, x.implied(100, 3));
        Check.due("another bag", 0, x.implied(101, 1));
        x.event(0, 1, 1, 100, 42);
        x.event(0, 100, 7, 199, 1000);
        x.settle();
        Check.due("put in again, all later ones", 6, x.implied(100, 1));
        x.event(0, 99, 1, 199, 0);
        x.event(0, 199, 0, 100, 1);
        x.settle();
        Check.due("the last item and bag", 1, x.implied(199, 99));
        x.event(0, 0, 1, 100, 0);
        x.settle();
        Check.due("the first item and bag", 10, x.implied(100, 0));
    }

    private static void impliedOnce() {
        EventOrder x = Given.sources(1);
        x.event(0, 1, 1, 100, 10);
        x.event(0, 1, 1, 100, 20);
        x.event(0, 100, 0, 0, 25);
        x.settle();
        Check.due("put in twice", 1, x.implied(100, 1));
        x.event(0, 1, 2, 100, 30);
        x.event(0, 1, 2, 100, 40);
        x.event(0, 100, 0, 0, 15);
        x.settle();
        Check.due("put in and taken out twice", 2, x.implied(100, 1));
        x.event(0, 1, 1, 100, 30);
        x.event(0, 100, 0, 0, 30);
        x.settle();
        Check.due("at the end of one and the begin of another", 3, x.implied(100, 1));
    }

    private static void impliedWrongBags() {
        EventOrder x = Given.sources(1);
        x.settle();
        Check.due("bag 100", 0, x.implied(100, 0));
        Check.due("bag 199", 0, x.implied(199, 0));
        for (int bag : new int[] {-1, 0, 99, 200, MOST, LEAST}) {
            Check.dueIndex("bag " + bag, () -> x.implied(bag, 0));
        }
    }

    private static void impliedWrongItems() {
        EventOrder x = Given.sources(1);
        x.settle();
        Check.due("item 0", 0, x.implied(100, 0));
        Check.due("item 99", 0, x.implied(100, 99));
        for (int item : new int[] {-1, 100, 101, 199, 200, MOST, LEAST}) {
            Check.dueIndex("item " + item, () -> x.implied(100, item));
        }
    }

    private static void impliedNotSettled() {
        EventOrder x = Given.sources(1);
        Check.dueState("never", () -> x.implied(100, 0));
        x.settle();
        Check.due("settled", 0, x.implied(100, 0));
        Given.limit(x, 0, 0, -1);
        Check.dueState("a need since", () -> x.implied(100, 0));
        x.settle();
        Check.dueState("with a ring", () -> x.implied(100, 0));
    }

    private static void correct() {
        EventOrder x = Given.events(5, 6);
        x.event(0, 0, 0, 1, 7);
        x.need(1, 2);
        Check.due("another clock", 1, x.correct(1, 7));
        Check.due("a ring by it", -1, x.settle());
        Check.due("highest", 1, x.correct(2, TOP));
        Check.due("lowest", 1, x.correct(1, -TOP));
        Check.due("settle", 1, x.settle());
        Check.due("highest", TOP, x.corrected(2));
        Check.due("lowest", -TOP, x.corrected(1));
        Check.due("in order", 1, x.ordered(0, 0));
        Check.due("how many", 3, x.ask(0, 0));
        Check.due("what it was can come again", 4, x.event(0, 0, 0, 0, 5));
        Check.due("what it is cannot", 0, x.event(0, 0, 0, 0, -TOP));
        Check.due("by one", 1, x.correct(1, 1 - TOP));
        Check.due("and back", 1, x.correct(1, -TOP));
    }

    private static void correctToItself() {
        EventOrder x = Given.events(5, -TOP, TOP);
        Check.due("its clock", 0, x.correct(1, 5));
        Check.due("the lowest", 0, x.correct(2, -TOP));
        Check.due("the highest", 0, x.correct(3, TOP));
        Check.due("another clock", 1, x.correct(1, 8));
        Check.due("which is its clock now", 0, x.correct(1, 8));
    }

    /** Each event but the last differs from the first in one thing beside the clock. */
    private static void correctToAnother() {
        EventOrder x = Given.sources(2);
        x.event(0, 40, 3, 50, 0);
        x.event(1, 40, 3, 50, 1);
        x.event(0, 41, 3, 50, 2);
        x.event(0, 40, 4, 50, 3);
        x.event(0, 40, 3, 51, 4);
        x.event(0, 40, 3, 50, 5);
        for (int clock = 1; clock <= 4; clock++) {
            Check.due("the clock of one that is not the same", 1, x.correct(1, clock));
        }
        Check.due("the clock of one that is the same then", 0, x.correct(1, 5));
        Check.due("the other way", 0, x.correct(6, 4));
        Check.due("once it is away", 1, x.correct(6, 9));
        Check.due("it can be", 1, x.correct(1, 5));
    }

    private static void correctChangesNothing() {
        EventOrder x = Given.events(5, 6);
        x.settle();
        Check.due("its clock", 0, x.correct(1, 5));
        Check.due("still settled", 5, x.corrected(1));
        Check.due("that of another", 0, x.correct(1, 6));
        Check.due("still settled", 5, x.corrected(1));
        Check.due("settle", 1, x.settle());
        Check.due("the clock is what it was", 5, x.corrected(1));
        Check.due("so is the other one", 6, x.corrected(2));
    }

    private static void correctWrongEvents() {
        EventOrder x = Given.events(5, 6, 7);
        x.settle();
        for (int event : new int[] {0, 4, -1, 300, 301, MOST, LEAST}) {
            Check.dueIndex("event " + event, () -> x.correct(event, 1));
        }
        Check.due("still settled", 7, x.corrected(3));
        Check.due("the last", 1, x.correct(3, 1));
        EventOrder full = fullOfEvents();
        Check.dueIndex("event 301", () -> full.correct(301, 1000));
        Check.due("event 300", 1, full.correct(300, 1000));
    }

    private static void correctWrongClocks() {
        EventOrder x = Given.events(5);
        x.settle();
        for (long clock : new long[] {-TOP - 1, TOP + 1, (1L << 32) + 5, Long.MAX_VALUE, Long.MIN_VALUE}) {
            Check.dueArgument("clock " + clock, () -> x.correct(1, clock));
        }
        Check.due("still settled", 5, x.corrected(1));
    }

    private static void ask() {
        EventOrder x = Given.sources(3);
        x.event(0, 10, 3, 20, 0);
        x.event(2, 10, 3, 30, 0);
        x.event(2, 11, 7, 30, 0);
        x.event(2, 0, 0, 0, 0);
        x.event(2, 199, 0, 199, 0);
        Check.due("item", 2, x.ask(0, 10));
        Check.due("item 0", 1, x.ask(0, 0));
        Check.due("item 199", 1, x.ask(0, 199));
        Check.due("item without events", 0, x.ask(0, 30));
        Check.due("place", 2, x.ask(1, 30));
        Check.due("place 0", 1, x.ask(1, 0));
        Check.due("place 199", 1, x.ask(1, 199));
        Check.due("source", 4, x.ask(2, 2));
        Check.due("source without events", 0, x.ask(2, 1));
        Check.due("kind", 2, x.ask(3, 3));
        Check.due("kind 0", 2, x.ask(3, 0));
        Check.due("kind 7", 1, x.ask(3, 7));
        Check.due("an event that is there", 0, x.event(0, 10, 3, 20, 0));
        Check.due("item still", 2, x.ask(0, 10));
        EventOrder full = fullOfEvents();
        Check.due("all of an item", 300, full.ask(0, 7));
        Check.due("all of a place", 300, full.ask(1, 0));
        Check.due("all of a source", 300, full.ask(2, 0));
        Check.due("all of a kind", 300, full.ask(3, 0));
    }

    private static void askNoSuchNumbers() {
        EventOrder x = Given.sources(1);
        x.event(0, 0, 0, 0, 0);
        for (int kind = 0; kind <= 3; kind++) {
            for (int of : new int[] {-1, 8, 16, 200, 300, MOST, LEAST}) {
                Check.due("ask(" + kind + ", " + of + ")", 0, x.ask(kind, of));
            }
        }
        Check.due("a source that there is not yet", 0, x.ask(2, 1));
    }

    private static void askWrongKinds() {
        EventOrder x = Given.events(5);
        x.settle();
        for (int kind : new int[] {-1, 4, 5, MOST, LEAST}) {
            Check.dueArgument("ask(" + kind + ", 0)", () -> x.ask(kind, 0));
            Check.dueArgument("ask(" + kind + ", -1)", () -> x.ask(kind, -1));
        }
        Check.due("still settled", 5, x.corrected(1));
    }
}
