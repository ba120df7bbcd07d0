import java.util.ArrayList;
import java.util.Comparator;
import java.util.HashSet;
import java.util.List;
import java.util.Random;
import java.util.Set;

/**
 * Runs of chosen calls against a slow reading of the document: rings by trying every row, bounds by
 * trying every way, implied events by the words of the term. Seeds are fixed, so runs are the same
 * each time.
 */
public final class ReferenceTest {
    /** With the questions behind each settle some 440 calls: the document allows 512. */
    private static final int STEPS = 320;
    private static final int QUESTIONS = 4;

    public static void main(String[] args) {
        for (int seed = 1; seed <= 400; seed++) {
            run(seed, new Mix(1 + seed % 5, 3, 3, 12, 40));
            run(seed + 10000, new Mix(6, 2, 2, 60, 60));
            run(seed + 20000, new Mix(16, 4, 2, 400, 400));
            run(seed + 30000, new Mix(2, 1, 1, 15, 15));
            for (int again = 4; again < 8; again++) {
                runOfLimits(seed + 10000 * again);
            }
        }
        Check.end();
    }

    /** Seeds that are near each other begin with nearly the same numbers, so they are put apart. */
    private static Random seeded(int seed) {
        return new Random(seed * 0x9E3779B97F4A7C15L);
    }

    /** How many sources, items and bags take part, how far clocks go, and how far sources are apart. */
    private record Mix(int sources, int items, int bags, int clocks, int spread) {
    }

    private static void run(int seed, Mix mix) {
        Random random = seeded(seed);
        EventOrder x = new EventOrder();
        Slow slow = new Slow();
        for (int i = 0; i < mix.sources(); i++) {
            compare(seed, "source()", x::source, slow::source);
        }
        for (int i = mix.sources(); i < STEPS; i++) {
            step(seed, random, mix, x, slow);
        }
    }

    private static void compare(int seed, String call, Check.Call got, Check.Call want) {
        Check.dueText("seed " + seed + ": " + call, Check.told(want), Check.told(got));
    }

    /**
     * Limits that hidden offsets allow with little to spare, and now and then one that they do not:
     * so rings are long and their sums near 0.
     */
    private static void runOfLimits(int seed) {
        Random random = seeded(seed);
        int sources = 1 + random.nextInt(16);
        int reach = 1 + random.nextInt(sources);
        long[] hidden = new long[sources];
        EventOrder x = new EventOrder();
        Slow slow = new Slow();
        for (int s = 0; s < sources; s++) {
            hidden[s] = random.nextInt(201) - 100;
            compare(seed, "source()", x::source, slow::source);
        }
        int spare = 1 + random.nextInt(6);
        int few = 1 + random.nextInt(3);
        for (int i = 0; i < sources * few; i++) {
            int a = random.nextInt(sources);
            int b = (a + (random.nextInt(40) > 0 ? 1 : 0) + random.nextInt(reach)) % sources;
            long spared = random.nextInt(spare) - (random.nextInt(12) == 0 ? 1 + random.nextInt(12) : 0);
            addLimit(seed, x, slow, i, a, b, hidden[a] - hidden[b] + spared);
            if (i % (3 * few) == 3 * few - 1) {
                compareSettled(seed, x, slow);
            }
        }
    }

    private static void addLimit(int seed, EventOrder x, Slow slow, int i, int a, int b, long weight) {
        compare(seed, "event", () -> x.event(a, i, 0, 0, 0), () -> slow.event(a, i, 0, 0, 0));
        compare(seed, "event", () -> x.event(b, i, 3, 0, weight + 1), () -> slow.event(b, i, 3, 0, weight + 1));
        compare(seed, "need", () -> x.need(2 * i + 1, 2 * i + 2), () -> slow.need(2 * i + 1, 2 * i + 2));
    }

    private static void compareSettled(int seed, EventOrder x, Slow slow) {
        compare(seed, "settle()", x::settle, slow::settle);
        for (int s = 0; s < slow.sources; s++) {
            int a = s;
            compare(seed, "ring(" + s + ")", () -> x.ring(a), () -> slow.ring(a));
            compare(seed, "offset(" + s + ")", () -> x.offset(a), () -> slow.offset(a));
            int b = (s * 5 + 3) % slow.sources;
            compare(seed, "bound(" + a + ", " + b + ")", () -> x.bound(a, b), () -> slow.bound(a, b));
        }
    }

    private static int near(Random random, int from, int to) {
        return random.nextInt(40) == 0 ? (random.nextBoolean() ? from - 1 : to + 1)
                : from + random.nextInt(to - from + 1);
    }

    private static int anItem(Random random, Mix mix) {
        return random.nextInt(60) == 0 ? near(random, 0, 199)
                : random.nextInt(3) > 0 ? random.nextInt(mix.items()) : 100 + random.nextInt(mix.bags());
    }

    private static long aClock(Random random, Mix mix, int source) {
        int skew = source * 7 % 11 * mix.spread() / 20;
        return random.nextInt(80) == 0 ? 1000000000L + random.nextInt(2)
                : skew + random.nextInt(mix.clocks()) - mix.clocks() / 2;
    }

    private static void step(int seed, Random random, Mix mix, EventOrder x, Slow slow) {
        int what = random.nextInt(100);
        if (what < 25) {
            addEvent(seed, random, mix, x, slow);
        } else if (what < 35) {
            addNeed(seed, random, x, slow);
        } else if (what < 45) {
            compare(seed, "settle()", x::settle, slow::settle);
            for (int i = 0; i < QUESTIONS; i++) {
                question(seed, random, mix, x, slow);
            }
        } else if (what < 50) {
            int e = near(random, 1, Math.max(1, slow.events.size()));
            long clock = aClock(random, mix, random.nextInt(mix.sources()));
            compare(seed, "correct(" + e + ", " + clock + ")", () -> x.correct(e, clock), () -> slow.correct(e, clock));
        } else if (what < 51) {
            compare(seed, "source()", x::source, slow::source);
        } else {
            question(seed, random, mix, x, slow);
        }
    }

    private static void addEvent(int seed, Random random, Mix mix, EventOrder x, Slow slow) {
        int s = near(random, 0, slow.sources - 1);
        int item = anItem(random, mix);
        int kind = random.nextInt(4) == 0 ? near(random, 0, 7) : item < 100 ? 1 + random.nextInt(2) : 3;
        int place = random.nextInt(4) == 0 ? near(random, 0, 199) : 100 + random.nextInt(mix.bags());
        long clock = aClock(random, mix, s);
        compare(seed, "event(" + s + ", " + item + ", " + kind + ", " + place + ", " + clock + ")",
                () -> x.event(s, item, kind, place, clock), () -> slow.event(s, item, kind, place, clock));
    }

    /** Mostly in the order of the clocks: without that nearly every run would have a short ring. */
    private static void addNeed(int seed, Random random, EventOrder x, Slow slow) {
        int count = Math.max(1, slow.events.size());
        int a = near(random, 1, count);
        int b = near(random, 1, count);
        boolean swap = a >= 1 && b >= 1 && a <= slow.events.size() && b <= slow.events.size()
                && slow.events.get(a - 1).clock > slow.events.get(b - 1).clock && random.nextInt(100) > 0;
        int first = swap ? b : a;
        int second = swap ? a : b;
        compare(seed, "need(" + first + ", " + second + ")", () -> x.need(first, second),
                () -> slow.need(first, second));
    }

    private static void question(int seed, Random random, Mix mix, EventOrder x, Slow slow) {
        int a = near(random, 0, slow.sources - 1);
        int b = near(random, 0, slow.sources - 1);
        int e = near(random, 1, Math.max(1, slow.events.size()));
        int item = anItem(random, mix);
        int bag = random.nextInt(20) == 0 ? near(random, 0, 199) : 100 + random.nextInt(mix.bags());
        int i = near(random, 0, 12);
        int kind = near(random, 0, 3);
        switch (random.nextInt(7)) {
            case 0 -> compare(seed, "ring(" + i + ")", () -> x.ring(i), () -> slow.ring(i));
            case 1 -> compare(seed, "offset(" + a + ")", () -> x.offset(a), () -> slow.offset(a));
            case 2 -> compare(seed, "bound(" + a + ", " + b + ")", () -> x.bound(a, b), () -> slow.bound(a, b));
            case 3 -> compare(seed, "corrected(" + e + ")", () -> x.corrected(e), () -> slow.corrected(e));
            case 4 -> compare(seed, "ordered(" + item + ", " + i + ")", () -> x.ordered(item, i), () -> slow.ordered(item, i));
            case 5 -> compare(seed, "implied(" + bag + ", " + item + ")", () -> x.implied(bag, item), () -> slow.implied(bag, item));
            default -> compare(seed, "ask(" + kind + ", " + i + ")", () -> x.ask(kind, i), () -> slow.ask(kind, i));
        }
    }

    private static final class Happening {
        final int number;
        final int source;
        final int item;
        final int kind;
        final int place;
        long clock;

        Happening(int number, int source, int item, int kind, int place, long clock) {
            this.number = number;
            this.source = source;
            this.item = item;
            this.kind = kind;
            this.place = place;
            this.clock = clock;
        }

        boolean is(int s, int i, int k, int p, long c) {
            return source == s && item == i && kind == k && place == p && clock == c;
        }
    }

    /** The document, word by word. */
    private static final class Slow {
        final List<Happening> events = new ArrayList<>();
        final List<Happening[]> needs = new ArrayList<>();
        int sources = 0;
        boolean holds = false;
        List<Integer> ring = new ArrayList<>();
        long[] offsets = new long[16];

        int source() {
            if (sources == 16) {
                throw new UnsupportedOperationException();
            }
            holds = false;
            return sources++;
        }

        void index(boolean fine) {
            if (!fine) {
                throw new IndexOutOfBoundsException();
            }
        }

        void argument(boolean fine) {
            if (!fine) {
                throw new IllegalArgumentException();
            }
        }

        void state() {
            if (!holds) {
                throw new IllegalStateException();
            }
        }

        Happening byNumber(int e) {
            index(e >= 1 && e <= events.size());
            return events.get(e - 1);
        }

        int event(int s, int item, int kind, int place, long clock) {
            index(s >= 0 && s < sources && item >= 0 && item < 200);
            argument(kind >= 0 && kind < 8 && place >= 0 && place < 200 && Math.abs(clock) <= 1000000000L);
            argument((kind != 1 && kind != 2) || (item < 100 && place >= 100));
            for (Happening h : events) {
                if (h.is(s, item, kind, place, clock)) {
                    return 0;
                }
            }
            if (events.size() == 300) {
                throw new UnsupportedOperationException();
            }
            events.add(new Happening(events.size() + 1, s, item, kind, place, clock));
            holds = false;
            return events.size();
        }

        int need(int first, int second) {
            Happening[] pair = {byNumber(first), byNumber(second)};
            argument(first != second);
            if (needs.size() == 300) {
                throw new UnsupportedOperationException();
            }
            needs.add(pair);
            holds = false;
            return needs.size();
        }

        int correct(int e, long clock) {
            Happening it = byNumber(e);
            argument(Math.abs(clock) <= 1000000000L);
            for (Happening h : events) {
                if (h.is(it.source, it.item, it.kind, it.place, clock)) {
                    return 0;
                }
            }
            it.clock = clock;
            holds = false;
            return 1;
        }

        /** null without such a need. */
        Long[][] weights() {
            Long[][] w = new Long[sources][sources];
            for (Happening[] pair : needs) {
                int a = pair[0].source;
                int b = pair[1].source;
                long gap = pair[1].clock - pair[0].clock - 1;
                if (w[a][b] == null || w[a][b] > gap) {
                    w[a][b] = gap;
                }
            }
            return w;
        }

        int settle() {
            Long[][] w = weights();
            for (int length = 1; length <= sources; length++) {
                for (int start = 0; start < sources; start++) {
                    List<Integer> row = new ArrayList<>(List.of(start));
                    if (closes(w, row, 0, length)) {
                        ring = row;
                        holds = false;
                        return -length;
                    }
                }
            }
            ring = new ArrayList<>();
            holds = true;
            for (int s = 0; s < sources; s++) {
                offsets[s] = nearest(s);
            }
            return 1;
        }

        /** Tries the rows of this length in order; a row's first source is its least. */
        boolean closes(Long[][] w, List<Integer> row, long sum, int length) {
            int start = row.get(0);
            int last = row.get(row.size() - 1);
            if (row.size() == length) {
                return w[last][start] != null && sum + w[last][start] < 0;
            }
            for (int next = start + 1; next < w.length; next++) {
                if (w[last][next] != null && !row.contains(next)) {
                    row.add(next);
                    if (closes(w, row, sum + w[last][next], length)) {
                        return true;
                    }
                    row.remove(row.size() - 1);
                }
            }
            return false;
        }

        long nearest(int s) {
            long best = 0;
            boolean low = false;
            boolean high = false;
            for (int t = 0; t < s; t++) {
                long up = way(s, t);
                long down = way(t, s);
                if (up != Long.MAX_VALUE && up + offsets[t] < best) {
                    best = up + offsets[t];
                    high = true;
                }
                if (down != Long.MAX_VALUE && offsets[t] - down > best) {
                    best = offsets[t] - down;
                    low = true;
                }
            }
            if (low && high) {
                throw new AssertionError("bounds on both sides of 0");
            }
            return best;
        }

        /** Without a ring a way of fewer steps than sources is as low as any. */
        long way(int a, int b) {
            Long[][] w = weights();
            long[] least = new long[sources];
            java.util.Arrays.fill(least, Long.MAX_VALUE);
            least[a] = 0;
            for (int round = 0; round < sources; round++) {
                for (int from = 0; from < sources; from++) {
                    for (int to = 0; to < sources; to++) {
                        if (w[from][to] != null && least[from] != Long.MAX_VALUE) {
                            least[to] = Math.min(least[to], least[from] + w[from][to]);
                        }
                    }
                }
            }
            return least[b];
        }

        int ring(int i) {
            return i >= 0 && i < ring.size() ? ring.get(i) : -1;
        }

        long offset(int s) {
            index(s >= 0 && s < sources);
            state();
            return offsets[s];
        }

        long bound(int a, int b) {
            index(a >= 0 && a < sources && b >= 0 && b < sources);
            state();
            return way(a, b);
        }

        long time(Happening h) {
            return h.clock + offsets[h.source];
        }

        long corrected(int e) {
            Happening h = byNumber(e);
            state();
            return time(h);
        }

        List<Happening> inOrder(int item) {
            List<Happening> row = new ArrayList<>();
            for (Happening h : events) {
                if (h.item == item) {
                    row.add(h);
                }
            }
            row.sort(Comparator.comparingLong(this::time).thenComparingInt(h -> h.place).thenComparingInt(h -> h.number));
            return row;
        }

        int ordered(int item, int i) {
            index(item >= 0 && item < 200);
            state();
            List<Happening> row = inOrder(item);
            return i >= 0 && i < row.size() ? row.get(i).number : 0;
        }

        int implied(int bag, int item) {
            index(bag >= 100 && bag < 200 && item >= 0 && item < 100);
            state();
            List<Happening> row = inOrder(item);
            Set<Integer> found = new HashSet<>();
            for (int p = 0; p < row.size(); p++) {
                if (row.get(p).kind == 1 && row.get(p).place == bag) {
                    long end = Long.MAX_VALUE;
                    for (int q = row.size() - 1; q > p; q--) {
                        if (row.get(q).kind == 2 && row.get(q).place == bag) {
                            end = time(row.get(q));
                        }
                    }
                    for (Happening h : inOrder(bag)) {
                        if (time(h) > time(row.get(p)) && time(h) <= end) {
                            found.add(h.number);
                        }
                    }
                }
            }
            return found.size();
        }

        int ask(int kind, int of) {
            argument(kind >= 0 && kind <= 3);
            int count = 0;
            for (Happening h : events) {
                int value = kind == 0 ? h.item : kind == 1 ? h.place : kind == 2 ? h.source : h.kind;
                count += value == of ? 1 : 0;
            }
            return count;
        }
    }
}
