/** Each sentence of the document's "Terms" that names a boundary case: a test of its own. */
public final class TermsTest {
    private static final long TOP = Given.TOP;

    public static void main(String[] args) {
        Check.sentence("SOURCES 0, 1, .. (16 at most)", TermsTest::sources);
        Check.sentence("EVENTS 1, 2, .. (300 at most)", TermsTest::events);
        Check.sentence("an ITEM 0 .. 199", TermsTest::items);
        Check.sentence("(100 and above are BAGS)", TermsTest::bags);
        Check.sentence("a KIND 0 .. 7", TermsTest::kinds);
        Check.sentence("a PLACE 0 .. 199", TermsTest::places);
        Check.sentence("a CLOCK, -10^9 .. 10^9", TermsTest::clocks);
        Check.sentence("Kind 1: its item is put into the bag that is its place", TermsTest::putsIn);
        Check.sentence("kind 2: its item is taken out of that", TermsTest::takesOut);
        Check.sentence("NEEDS (300 at most)", TermsTest::needs);
        Check.sentence("a corrected time below that of the second", TermsTest::belowTheSecond);
        Check.sentence("w(a, b) is the least, over needs", TermsTest::leastOfNeeds);
        Check.sentence("none without such", TermsTest::noneWithoutNeeds);
        Check.sentence("The offset of a less that of b is to be w(a, b) at most", TermsTest::atMost);
        Check.sentence("A RING is a row of sources .. below 0", TermsTest::ringBelowZero);
        Check.sentence("A RING .. below 0, with sums that an int cannot hold", TermsTest::ringOfFarSums);
        Check.sentence("s1 .. sk, each once", TermsTest::eachSourceOnce);
        Check.sentence("(of one source: w(s1, s1) below 0)", TermsTest::ringOfOne);
        Check.sentence("one with the fewest sources is told", TermsTest::fewestSources);
        Check.sentence("begun with its least source", TermsTest::begunWithLeast);
        Check.sentence("is least (by its first source", TermsTest::leastByFirst);
        Check.sentence("then the next one, and so on)", TermsTest::leastByNext);
        Check.sentence("BOUND(a, b) is the least sum of a way from a to b", TermsTest::leastWay);
        Check.sentence("BOUND(a, b) is the least sum, below and above what an int holds", TermsTest::farWay);
        Check.sentence("(0 from a to itself)", TermsTest::toItself);
        Check.sentence("BOUND(s, t) from above", TermsTest::fromAbove);
        Check.sentence("minus BOUND(t, s) from below", TermsTest::fromBelow);
        Check.sentence("all BOUNDS with sources before allow", TermsTest::allBefore);
        Check.sentence("with t's offset added", TermsTest::offsetAdded);
        Check.sentence("the one nearest to 0", TermsTest::nearestToZero);
        Check.sentence("It holds until a source", TermsTest::untilSource);
        Check.sentence("It holds until .. an event", TermsTest::untilEvent);
        Check.sentence("It holds until .. a need", TermsTest::untilNeed);
        Check.sentence("It holds until .. a correction comes", TermsTest::untilCorrection);
        Check.sentence("(one that is answered with 0 does not)", TermsTest::answeredWithZero);
        Check.sentence("ORDER of an item's events: by corrected times", TermsTest::orderByTimes);
        Check.sentence("ORDER .. then places", TermsTest::orderByPlaces);
        Check.sentence("ORDER .. then numbers", TermsTest::orderByNumbers);
        Check.sentence("events of the bag (whose item is the bag)", TermsTest::eventsOfTheBag);
        Check.sentence("above that of an event that puts the item into it", TermsTest::aboveThePut);
        Check.sentence("not above that of the next one .. that takes it out", TermsTest::notAboveTheTake);
        Check.sentence("the next one of this item in order", TermsTest::nextInOrder);
        Check.sentence("takes it out of that bag", TermsTest::outOfThatBag);
        Check.sentence("(all later ones, if none does)", TermsTest::allLater);
        Check.end();
    }

    private static void sources() {
        EventOrder x = new EventOrder();
        for (int i = 0; i < 16; i++) {
            Check.due("source", i, x.source());
        }
        Check.due("an event of the last", 1, x.event(15, 0, 0, 0, 0));
        Check.dueNoRoom("one more", x::source);
        Check.dueIndex("an event of it", () -> x.event(16, 0, 0, 0, 0));
    }

    private static void events() {
        EventOrder x = Given.sources(1);
        for (int i = 1; i <= 300; i++) {
            Check.due("event", i, x.event(0, i % 200, 0, 0, i));
        }
        Check.dueNoRoom("one more", () -> x.event(0, 0, 0, 0, 301));
        x.settle();
        Check.due("the first", 1, x.corrected(1));
        Check.due("the last", 300, x.corrected(300));
        Check.dueIndex("before the first", () -> x.corrected(0));
        Check.dueIndex("behind the last", () -> x.corrected(301));
    }

    private static void items() {
        EventOrder x = Given.sources(1);
        Check.dueIndex("item -1", () -> x.event(0, -1, 0, 0, 0));
        Check.due("item 0", 1, x.event(0, 0, 0, 0, 0));
        Check.due("item 199", 2, x.event(0, 199, 0, 0, 0));
        Check.dueIndex("item 200", () -> x.event(0, 200, 0, 0, 0));
        Check.dueIndex("item of the highest number", () -> x.event(0, Integer.MAX_VALUE, 0, 0, 0));
        Check.dueIndex("item of the least number", () -> x.event(0, Integer.MIN_VALUE, 0, 0, 0));
    }

    private static void bags() {
        EventOrder x = Given.sources(1);
        Check.due("99 into 100", 1, x.event(0, 99, 1, 100, 0));
        Check.dueArgument("100 into 101", () -> x.event(0, 100, 1, 101, 0));
        Check.dueArgument("98 into 99", () -> x.event(0, 98, 1, 99, 0));
        Check.due("0 into 199", 2, x.event(0, 0, 1, 199, 0));
        x.settle();
        Check.due("99 in 100", 0, x.implied(100, 99));
        Check.dueIndex("100 in 101", () -> x.implied(101, 100));
        Check.dueIndex("98 in 99", () -> x.implied(99, 98));
    }

    private static void kinds() {
        EventOrder x = Given.sources(1);
        Check.dueArgument("kind -1", () -> x.event(0, 0, -1, 100, 0));
        for (int kind = 0; kind <= 7; kind++) {
            Check.due("kind " + kind, kind + 1, x.event(0, 0, kind, 100, 0));
        }
        Check.dueArgument("kind 8", () -> x.event(0, 0, 8, 100, 0));
        Check.dueArgument("kind of the highest number", () -> x.event(0, 0, Integer.MAX_VALUE, 100, 0));
        Check.dueArgument("kind of the least number", () -> x.event(0, 0, Integer.MIN_VALUE, 100, 0));
    }

    private static void places() {
        EventOrder x = Given.sources(1);
        Check.dueArgument("place -1", () -> x.event(0, 0, 0, -1, 0));
        Check.due("place 0", 1, x.event(0, 0, 0, 0, 0));
        Check.due("place 199", 2, x.event(0, 0, 0, 199, 0));
        Check.dueArgument("place 200", () -> x.event(0, 0, 0, 200, 0));
        Check.dueArgument("place of the highest number", () -> x.event(0, 0, 0, Integer.MAX_VALUE, 0));
        Check.dueArgument("place of the least number", () -> x.event(0, 0, 0, Integer.MIN_VALUE, 0));
    }

    private static void clocks() {
        EventOrder x = Given.sources(1);
        Check.due("the least clock", 1, x.event(0, 0, 0, 0, -TOP));
        Check.due("the highest clock", 2, x.event(0, 0, 0, 0, TOP));
        long[] refused = {-TOP - 1, TOP + 1, 1L << 32, (1L << 32) + 5, Long.MIN_VALUE, Long.MAX_VALUE};
        for (long clock : refused) {
            Check.dueArgument("an event at " + clock, () -> x.event(0, 0, 0, 0, clock));
            Check.dueArgument("a correction to " + clock, () -> x.correct(1, clock));
        }
        x.settle();
        Check.due("the least clock", -TOP, x.corrected(1));
        Check.due("the highest clock", TOP, x.corrected(2));
    }

    /** A bag with an event at 5, and item 0 with an event of this kind there at 1. */
    private static int impliedAfter(int kind) {
        EventOrder x = Given.sources(1);
        x.event(0, 100, 0, 0, 5);
        x.event(0, 0, kind, 100, 1);
        x.settle();
        return x.implied(100, 0);
    }

    private static void putsIn() {
        for (int kind = 0; kind <= 7; kind++) {
            Check.due("implied after kind " + kind, kind == 1 ? 1 : 0, impliedAfter(kind));
        }
    }

    private static void takesOut() {
        for (int kind = 0; kind <= 7; kind++) {
            EventOrder x = Given.sources(1);
            x.event(0, 100, 0, 0, 5);
            x.event(0, 0, 1, 100, 1);
            x.event(0, 0, kind, 100, 3);
            x.settle();
            Check.due("implied after kind " + kind, kind == 2 ? 0 : 1, x.implied(100, 0));
        }
    }

    /** The last of the needs is the one that makes a ring: all of them count. */
    private static void needs() {
        EventOrder x = Given.events(0, 1);
        for (int i = 1; i < 300; i++) {
            Check.due("need", i, x.need(1, 2));
        }
        Check.due("without a ring", 1, x.settle());
        Check.due("the last", 300, x.need(2, 1));
        Check.dueNoRoom("one more", () -> x.need(1, 2));
        Check.due("with a ring", -1, x.settle());
    }

    private static void belowTheSecond() {
        EventOrder x = Given.events(4, 5);
        x.need(1, 2);
        Check.due("one below", 1, x.settle());
        EventOrder y = Given.sources(1);
        y.event(0, 0, 0, 0, 5);
        y.event(0, 1, 0, 0, 5);
        y.need(1, 2);
        Check.due("equal", -1, y.settle());
        EventOrder z = Given.sources(2);
        z.event(0, 0, 0, 0, 5);
        z.event(1, 0, 0, 0, 5);
        z.need(1, 2);
        z.settle();
        Check.due("first", 5, z.corrected(1));
        Check.due("second", 6, z.corrected(2));
    }

    private static void leastOfNeeds() {
        long[] weights = {7, -3, 2};
        for (int begin = 0; begin < 3; begin++) {
            EventOrder x = Given.sources(2);
            for (int i = 0; i < 3; i++) {
                Given.limit(x, 0, 1, weights[(begin + i) % 3]);
            }
            x.settle();
            Check.due("the least, begun with need " + begin, -3, x.bound(0, 1));
        }
        EventOrder y = Given.sources(2);
        y.event(0, 0, 0, 0, 10);
        y.event(1, 0, 0, 0, 30);
        y.need(1, 2);
        y.settle();
        Check.due("the second clock less the first one less 1", 19, y.bound(0, 1));
        y.correct(2, 50);
        y.settle();
        Check.due("after a correction that leaves more", 39, y.bound(0, 1));
    }

    private static void noneWithoutNeeds() {
        EventOrder x = Given.sources(2);
        x.event(0, 0, 0, 0, 10);
        x.event(1, 0, 0, 0, -10);
        x.settle();
        Check.due("without needs", EventOrder.FAR, x.bound(0, 1));
        Check.due("without needs", 0, x.offset(1));
        x.need(1, 2);
        x.settle();
        Check.due("with a need", -21, x.bound(0, 1));
        Check.due("with a need the other way", EventOrder.FAR, x.bound(1, 0));
    }

    private static void atMost() {
        long[] weights = {-2, -1, 0, 1, Given.LOWEST, Given.HIGHEST};
        long[] higher = {2, 1, 0, 0, 2 * TOP + 1, 0};
        for (int i = 0; i < weights.length; i++) {
            EventOrder x = Given.sources(2);
            Given.limit(x, 0, 1, weights[i]);
            x.settle();
            Check.due("of b at " + weights[i], higher[i], x.offset(1));
            EventOrder y = Given.sources(2);
            Given.limit(y, 1, 0, weights[i]);
            y.settle();
            Check.due("of a at " + weights[i], -higher[i], y.offset(1));
        }
    }

    /** All of them in one ring, the last limit such that the sum is this. */
    private static EventOrder inARing(int count, long sum) {
        EventOrder x = Given.sources(count);
        for (int s = 0; s < count; s++) {
            Given.limit(x, s, (s + 1) % count, s + 1 < count ? 3 : sum - 3 * (count - 1));
        }
        return x;
    }

    private static void ringBelowZero() {
        for (int count = 1; count <= 16; count++) {
            Check.due(count + " sources, sum 1", 1, inARing(count, 1).settle());
            Check.due(count + " sources, sum 0", 1, inARing(count, 0).settle());
            Check.due(count + " sources, sum -1", -count, inARing(count, -1).settle());
        }
        EventOrder x = Given.sources(5);
        Given.limit(x, 0, 0, 0);
        Given.limit(x, 0, 1, 2);
        Given.limit(x, 1, 0, -2);
        close(x, 2, 3, 4);
        Given.dueRing("beside rows of sum 0 with fewer and lesser sources", x, 2, 3, 4);
        close(x, 3, 4);
        Given.limit(x, 1, 2, 5);
        Given.limit(x, 2, 1, -5);
        Given.dueRing("beside rows of sum 0 with as many and lesser sources", x, 3, 4);
    }

    private static void ringOfFarSums() {
        EventOrder x = Given.sources(2);
        Given.limit(x, 0, 1, Given.HIGHEST);
        Given.limit(x, 1, 0, Given.HIGHEST);
        Check.due("a sum far above 0", 1, x.settle());
        EventOrder y = Given.sources(2);
        Given.limit(y, 0, 1, Given.LOWEST);
        Given.limit(y, 1, 0, Given.LOWEST);
        Given.dueRing("a sum far below 0", y, 0, 1);
        EventOrder z = Given.sources(16);
        for (int s = 0; s < 16; s++) {
            Given.limit(z, s, (s + 1) % 16, s < 8 ? Given.HIGHEST : Given.HIGHEST * -1);
        }
        Check.due("a sum of 0 over far ones", 1, z.settle());
        Given.limit(z, 15, 0, -Given.HIGHEST - 1);
        Check.due("a sum of -1 over far ones", -16, z.settle());
    }

    /** 0, 1, 2, 1 would be a row below 0 that begins with a lesser source. */
    private static void eachSourceOnce() {
        EventOrder x = Given.sources(3);
        Given.limit(x, 0, 1, 1);
        Given.limit(x, 1, 0, 1);
        Given.limit(x, 1, 2, -4);
        Given.limit(x, 2, 1, 1);
        Given.dueRing("a ring behind another source", x, 1, 2);
        EventOrder y = Given.sources(2);
        Given.limit(y, 0, 1, 0);
        Given.limit(y, 1, 0, 0);
        Given.limit(y, 1, 1, -1);
        Given.dueRing("a source by itself behind another", y, 1);
    }

    private static void ringOfOne() {
        EventOrder x = Given.sources(3);
        Given.limit(x, 2, 2, 0);
        Check.due("0 is none", 1, x.settle());
        Given.limit(x, 2, 2, -1);
        Given.dueRing("-1 is one", x, 2);
    }

    private static void fewestSources() {
        EventOrder x = Given.sources(16);
        for (int s = 0; s < 16; s++) {
            Given.limit(x, s, (s + 1) % 16, -100);
        }
        Check.due("sixteen", -16, x.settle());
        Given.limit(x, 15, 1, 1399);
        Check.due("fifteen, less far below 0", -15, x.settle());
        Check.due("begun with 1", 1, x.ring(0));
        Given.limit(x, 15, 13, 199);
        Given.dueRing("three", x, 13, 14, 15);
        Given.limit(x, 15, 14, 99);
        Given.dueRing("two", x, 14, 15);
        Given.limit(x, 15, 15, -1);
        Given.dueRing("one", x, 15);
    }

    private static void begunWithLeast() {
        int[] row = {3, 1, 2};
        EventOrder x = Given.sources(4);
        for (int i = 0; i < 3; i++) {
            Given.limit(x, row[i], row[(i + 1) % 3], i == 0 ? -1 : 0);
        }
        Given.dueRing("1 is the least", x, 1, 2, 3);
        EventOrder y = Given.sources(16);
        Given.limit(y, 15, 0, -1);
        Given.limit(y, 0, 15, 0);
        Given.dueRing("0 is the least", y, 0, 15);
    }

    private static void leastByFirst() {
        EventOrder x = Given.sources(4);
        Given.limit(x, 2, 3, -1);
        Given.limit(x, 3, 2, 0);
        Given.dueRing("the only one", x, 2, 3);
        Given.limit(x, 1, 3, -1);
        Given.limit(x, 3, 1, 0);
        Given.dueRing("one with a lesser first", x, 1, 3);
        EventOrder y = Given.sources(3);
        Given.limit(y, 2, 2, -9);
        Given.limit(y, 1, 1, -1);
        Given.dueRing("of one source each", y, 1);
    }

    /** Makes the row a ring: the limits within it are 0 and the last one is below. */
    private static void close(EventOrder x, int... row) {
        for (int i = 0; i < row.length; i++) {
            boolean last = i + 1 == row.length;
            Given.limit(x, row[i], last ? row[0] : row[i + 1], last ? -1 : 0);
        }
    }

    private static void leastByNext() {
        EventOrder x = Given.sources(13);
        close(x, 0, 9, 10, 11);
        Given.dueRing("the only one", x, 0, 9, 10, 11);
        close(x, 0, 3, 8, 11);
        Given.dueRing("a lesser second", x, 0, 3, 8, 11);
        close(x, 0, 3, 4, 11);
        Given.dueRing("a lesser third", x, 0, 3, 4, 11);
        close(x, 0, 3, 4, 7);
        Given.dueRing("a lesser fourth", x, 0, 3, 4, 7);
        close(x, 0, 3, 4, 12);
        Given.dueRing("a higher fourth", x, 0, 3, 4, 7);
        EventOrder y = Given.sources(4);
        Given.limit(y, 0, 3, -10);
        Given.limit(y, 3, 1, -10);
        Given.limit(y, 1, 0, 15);
        Given.limit(y, 0, 2, 0);
        Given.limit(y, 2, 1, -16);
        Given.dueRing("the least row, not the least sum", y, 0, 2, 1);
        EventOrder z = Given.sources(4);
        Given.limit(z, 0, 2, 0);
        Given.limit(z, 2, 3, 0);
        Given.limit(z, 3, 0, -5);
        Given.limit(z, 0, 1, 1);
        Given.limit(z, 1, 3, 4);
        Given.dueRing("a lesser next that closes at 0", z, 0, 2, 3);
        Given.limit(z, 1, 3, 3);
        Given.dueRing("a lesser next that closes below 0", z, 0, 1, 3);
    }

    private static void leastWay() {
        EventOrder x = Given.sources(16);
        for (int s = 0; s < 15; s++) {
            Given.limit(x, 15 - s, 14 - s, 2);
        }
        Given.limit(x, 15, 0, 31);
        x.settle();
        Check.due("through all", 30, x.bound(15, 0));
        Given.limit(x, 15, 0, 29);
        x.settle();
        Check.due("at once", 29, x.bound(15, 0));
        Given.limit(x, 9, 3, -5);
        x.settle();
        Check.due("by one that goes down", 12 - 5 + 6, x.bound(15, 0));
        Check.due("part of it", -5, x.bound(9, 3));
        Check.due("into it", 12 - 5, x.bound(15, 3));
    }

    private static void farWay() {
        EventOrder x = Given.sources(16);
        for (int s = 0; s < 15; s++) {
            Given.limit(x, s, s + 1, Given.LOWEST);
        }
        Check.due("settle", 1, x.settle());
        Check.due("far below", 15 * Given.LOWEST, x.bound(0, 15));
        Check.due("an offset far up", -15 * Given.LOWEST, x.offset(15));
        EventOrder y = Given.sources(16);
        for (int s = 0; s < 15; s++) {
            Given.limit(y, s, s + 1, Given.HIGHEST);
        }
        Check.due("settle", 1, y.settle());
        Check.due("far above", 15 * Given.HIGHEST, y.bound(0, 15));
    }

    private static void toItself() {
        EventOrder x = Given.sources(3);
        Given.limit(x, 0, 0, 4);
        Given.limit(x, 1, 2, -5);
        Given.limit(x, 2, 1, 5);
        x.settle();
        Check.due("with a limit of its own above 0", 0, x.bound(0, 0));
        Check.due("with a way round of 0", 0, x.bound(1, 1));
        EventOrder y = Given.sources(2);
        Given.limit(y, 0, 1, 3);
        Given.limit(y, 1, 0, 3);
        y.settle();
        Check.due("with a way round above 0", 0, y.bound(0, 0));
        EventOrder z = Given.sources(16);
        z.settle();
        Check.due("without needs", 0, z.bound(15, 15));
    }

    /** The offset of source 1 if only w(1, 0) and w(0, 1) are given; FAR for none. */
    private static long between(long least, long most) {
        EventOrder x = Given.sources(2);
        if (most != EventOrder.FAR) {
            Given.limit(x, 1, 0, most);
        }
        if (least != EventOrder.FAR) {
            Given.limit(x, 0, 1, -least);
        }
        x.settle();
        return x.offset(1);
    }

    private static void fromAbove() {
        Check.due("-1 at most", -1, between(EventOrder.FAR, -1));
        Check.due("0 at most", 0, between(EventOrder.FAR, 0));
        Check.due("1 at most", 0, between(EventOrder.FAR, 1));
    }

    private static void fromBelow() {
        Check.due("1 at least", 1, between(1, EventOrder.FAR));
        Check.due("0 at least", 0, between(0, EventOrder.FAR));
        Check.due("-1 at least", 0, between(-1, EventOrder.FAR));
    }

    private static void nearestToZero() {
        Check.due("nothing asked", 0, between(EventOrder.FAR, EventOrder.FAR));
        Check.due("0 is between", 0, between(-5, 5));
        Check.due("0 is the least", 0, between(0, 5));
        Check.due("0 is the most", 0, between(-5, 0));
        Check.due("above 0", 1, between(1, 5));
        Check.due("below 0", -1, between(-5, -1));
        Check.due("only one above 0", 4, between(4, 4));
        Check.due("only one below 0", -4, between(-4, -4));
        Check.due("only 0", 0, between(0, 0));
    }

    /** What is behind it does not bind a source but through its bounds: source 0 stays at 0. */
    private static void allBefore() {
        EventOrder x = Given.sources(4);
        Given.limit(x, 0, 3, -3);
        Given.limit(x, 1, 3, -7);
        Given.limit(x, 2, 3, -5);
        x.settle();
        Check.due("the highest of all from below", 7, x.offset(3));
        Check.due("before all", 0, x.offset(0));
        EventOrder y = Given.sources(4);
        Given.limit(y, 3, 0, -3);
        Given.limit(y, 3, 1, -7);
        Given.limit(y, 3, 2, -5);
        y.settle();
        Check.due("the least of all from above", -7, y.offset(3));
        Check.due("before all", 0, y.offset(0));
        EventOrder z = Given.sources(3);
        Given.limit(z, 1, 2, -6);
        Given.limit(z, 2, 0, 1);
        z.settle();
        Check.due("bound through one behind it", -5, z.offset(1));
        Check.due("the one behind it", 1, z.offset(2));
    }

    private static void offsetAdded() {
        EventOrder x = Given.sources(3);
        Given.limit(x, 0, 1, -10);
        Given.limit(x, 1, 2, 4);
        x.settle();
        Check.due("from below, more than 0", 6, x.offset(2));
        EventOrder y = Given.sources(3);
        Given.limit(y, 1, 0, -10);
        Given.limit(y, 2, 1, 4);
        y.settle();
        Check.due("from above, less than 0", -6, y.offset(2));
        EventOrder z = Given.sources(3);
        Given.limit(z, 0, 1, -10);
        Given.limit(z, 2, 1, -4);
        z.settle();
        Check.due("from above, not below 0 then", 0, z.offset(2));
        EventOrder u = Given.sources(3);
        Given.limit(u, 1, 0, -10);
        Given.limit(u, 1, 2, -4);
        u.settle();
        Check.due("from below, not above 0 then", 0, u.offset(2));
    }

    /** Settled, with source 0 and events 1 and 2 at 0 and 9. */
    private static EventOrder settled() {
        EventOrder x = Given.events(0, 9);
        x.settle();
        Check.due("settled before", 9, x.corrected(2));
        return x;
    }

    private static void dueSettledAgain(EventOrder x) {
        Check.due("settle", 1, x.settle());
        Check.due("settled again", 0, x.corrected(1));
    }

    private static void untilSource() {
        EventOrder x = settled();
        x.source();
        Given.dueUnsettled("a source", x);
        dueSettledAgain(x);
        Check.due("the new one", 0, x.offset(1));
        EventOrder y = new EventOrder();
        y.settle();
        y.source();
        Check.dueState("the first source", () -> y.offset(0));
        EventOrder z = Given.sources(15);
        z.settle();
        z.source();
        Check.dueState("the last source", () -> z.offset(0));
    }

    private static void untilEvent() {
        EventOrder x = settled();
        x.event(0, 0, 0, 0, 10);
        Given.dueUnsettled("an event", x);
        dueSettledAgain(x);
        Check.due("the new one", 10, x.corrected(3));
    }

    private static void untilNeed() {
        EventOrder x = settled();
        x.need(1, 2);
        Given.dueUnsettled("a need", x);
        dueSettledAgain(x);
        x.need(1, 2);
        Given.dueUnsettled("a need that changes no limit", x);
        dueSettledAgain(x);
    }

    private static void untilCorrection() {
        EventOrder x = settled();
        x.correct(2, 8);
        Given.dueUnsettled("a correction", x);
        dueSettledAgain(x);
        Check.due("the new time", 8, x.corrected(2));
    }

    private static void answeredWithZero() {
        EventOrder x = settled();
        Check.due("an event that is there", 0, x.event(0, 0, 0, 0, 9));
        Check.due("holds", 9, x.corrected(2));
        Check.due("a correction to the same clock", 0, x.correct(2, 9));
        Check.due("holds", 9, x.corrected(2));
        Check.due("a correction to another event", 0, x.correct(2, 0));
        Check.due("holds", 9, x.corrected(2));
        Check.due("holds for order too", 2, x.ordered(0, 1));
    }

    private static void dueOrder(EventOrder x, int... row) {
        Check.due("settle", 1, x.settle());
        for (int i = 0; i < row.length; i++) {
            Check.due("ordered " + i, row[i], x.ordered(0, i));
        }
        Check.due("behind the last", 0, x.ordered(0, row.length));
    }

    /** By clocks, places and numbers each of these rows would be another one. */
    private static void orderByTimes() {
        EventOrder x = Given.sources(2);
        x.event(0, 0, 0, 9, 20);
        x.event(0, 0, 0, 199, -TOP);
        x.event(1, 0, 0, 0, 0);
        x.event(0, 0, 0, 0, TOP);
        x.event(1, 0, 0, 8, 1);
        x.need(1, 3);
        dueOrder(x, 2, 1, 3, 5, 4);
        EventOrder y = Given.sources(2);
        Given.limit(y, 1, 0, Given.LOWEST);
        int late = y.event(0, 50, 0, 0, TOP);
        int early = y.event(1, 50, 0, 0, 0);
        int earlyToo = y.event(1, 51, 0, 0, 0);
        int lateToo = y.event(0, 51, 0, 0, TOP);
        y.settle();
        Check.due("further apart than an int holds", early, y.ordered(50, 0));
        Check.due("further apart than an int holds", late, y.ordered(50, 1));
        Check.due("told in order, further apart than an int holds", earlyToo, y.ordered(51, 0));
        Check.due("told in order, further apart than an int holds", lateToo, y.ordered(51, 1));
    }

    private static void orderByPlaces() {
        EventOrder x = Given.sources(2);
        x.event(0, 0, 0, 199, 5);
        x.event(0, 0, 0, 3, 5);
        x.event(1, 0, 0, 0, 5);
        x.event(1, 0, 0, 4, 5);
        dueOrder(x, 3, 2, 4, 1);
    }

    private static void orderByNumbers() {
        EventOrder x = Given.sources(2);
        x.event(1, 0, 7, 6, 5);
        x.event(0, 0, 7, 6, 5);
        x.event(1, 0, 0, 6, 5);
        x.event(0, 0, 0, 6, 5);
        dueOrder(x, 1, 2, 3, 4);
        x.correct(1, 4);
        x.correct(4, 4);
        dueOrder(x, 1, 4, 2, 3);
        x.correct(1, 5);
        x.correct(4, 5);
        dueOrder(x, 1, 2, 3, 4);
    }

    /** Item 1 in bag 100 from 10 to 20. */
    private static EventOrder bagged() {
        EventOrder x = Given.sources(1);
        x.event(0, 1, 1, 100, 10);
        x.event(0, 1, 2, 100, 20);
        return x;
    }

    private static void dueImplied(String what, int want, EventOrder x) {
        x.settle();
        Check.due(what, want, x.implied(100, 1));
    }

    private static void eventsOfTheBag() {
        EventOrder x = bagged();
        x.event(0, 101, 0, 100, 15);
        x.event(0, 2, 1, 100, 15);
        x.event(0, 1, 0, 100, 15);
        dueImplied("events at the bag as their place", 0, x);
        x.event(0, 100, 0, 0, 15);
        dueImplied("an event of the bag", 1, x);
        x.event(0, 100, 0, 100, 15);
        x.event(0, 100, 7, 101, 15);
        dueImplied("wherever and of whatever kind", 3, x);
    }

    private static void aboveThePut() {
        EventOrder x = bagged();
        x.event(0, 100, 0, 199, 9);
        x.event(0, 100, 0, 199, 10);
        x.event(0, 100, 0, 0, 10);
        dueImplied("before and at the put", 0, x);
        x.event(0, 100, 0, 0, 11);
        dueImplied("just above", 1, x);
        EventOrder y = Given.sources(1);
        y.event(0, 1, 1, 101, 10);
        y.event(0, 2, 1, 100, 10);
        y.event(0, 100, 0, 0, 11);
        dueImplied("put into another bag, and another item put into it", 0, y);
    }

    private static void notAboveTheTake() {
        EventOrder x = bagged();
        x.event(0, 100, 0, 0, 21);
        dueImplied("just above", 0, x);
        x.event(0, 100, 0, 0, 20);
        dueImplied("at the take", 1, x);
        x.event(0, 100, 0, 199, 20);
        dueImplied("at the take, behind it in order", 2, x);
        x.event(0, 100, 0, 0, 19);
        dueImplied("just below", 3, x);
    }

    private static void nextInOrder() {
        EventOrder x = bagged();
        x.event(0, 100, 0, 0, 18);
        dueImplied("up to the take at 20", 1, x);
        x.event(0, 1, 2, 100, 15);
        dueImplied("a take that came later stands before it", 0, x);
        x.event(0, 1, 2, 100, 9);
        x.event(0, 100, 0, 0, 14);
        dueImplied("a take before the put is not the next one", 1, x);
        EventOrder y = Given.sources(1);
        y.event(0, 1, 1, 100, 10);
        y.event(0, 1, 2, 100, 10);
        y.event(0, 100, 0, 0, 11);
        dueImplied("a take at the time of the put, of a higher number", 0, y);
        EventOrder z = Given.sources(1);
        z.event(0, 1, 2, 100, 10);
        z.event(0, 1, 1, 100, 10);
        z.event(0, 100, 0, 0, 11);
        dueImplied("a take at the time of the put, of a lower number", 1, z);
    }

    private static void outOfThatBag() {
        EventOrder x = bagged();
        x.event(0, 1, 2, 101, 12);
        x.event(0, 2, 2, 100, 12);
        x.event(0, 100, 0, 0, 18);
        dueImplied("out of another bag, and another item", 1, x);
        x.event(0, 1, 1, 101, 16);
        x.event(0, 101, 0, 0, 17);
        x.settle();
        Check.due("in two bags at once", 1, x.implied(101, 1));
        Check.due("in the first one still", 1, x.implied(100, 1));
    }

    private static void allLater() {
        EventOrder x = Given.sources(1);
        x.event(0, 1, 1, 100, -TOP);
        dueImplied("none later", 0, x);
        x.event(0, 100, 0, 0, -TOP);
        x.event(0, 100, 0, 0, 1 - TOP);
        x.event(0, 100, 0, 0, 0);
        x.event(0, 100, 0, 0, TOP);
        dueImplied("all but the one at its time", 3, x);
        x.event(0, 1, 2, 100, -1);
        x.event(0, 1, 1, 100, TOP - 1);
        dueImplied("all behind the second put", 2, x);
    }
}
