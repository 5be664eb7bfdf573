import java.util.Random;

/**
 * The document's own equalities, on drawn looms: what one call answers is held against what the other
 * calls answer, or against doing it on a second loom that is made by the same calls. No model is used.
 */
final class RelationTest {
    private static final int NONE = WireLoom.NONE;
    private static final int DRAWN_LOOMS = 120;
    private static final Check check = new Check("RelationTest");

    private final long seed;
    private final WireLoom x;

    private RelationTest(long seed) {
        this.seed = seed;
        this.x = drawn();
    }

    private void due(String what, long got, long want) {
        check.due("loom " + seed + ": " + what, got, want);
    }

    private void due(String what, boolean holds) {
        check.due("loom " + seed + ": " + what, holds);
    }

    /** The same loom for the same seed; some 40 to 120 calls, so that many are left for a test. */
    private WireLoom drawn() {
        Random draw = new Random(seed);
        WireLoom loom = new WireLoom();
        loom.set(0, 1 + draw.nextInt(draw.nextBoolean() ? 3 : 8));
        int threads = 3 + draw.nextInt(14);
        for (int i = 0; i < threads; i++) {
            int few = 1 << draw.nextInt(8) | 1 << draw.nextInt(8);
            loom.lay(draw.nextInt(16), draw.nextInt(5) == 0 ? draw.nextInt(256) : few);
        }
        for (int i = draw.nextInt(6); i > 0; i--) {
            loom.guard(draw.nextInt(16));
        }
        int worn = draw.nextInt(16);
        for (int i = draw.nextInt(4) * draw.nextInt(20); i > 0; i--) {
            loom.read(worn);
        }
        loom.set(1, draw.nextInt(2));
        loom.go(1 + draw.nextInt(draw.nextBoolean() ? 9 : 99));
        if (draw.nextInt(2) == 0) {
            loom.start();
        }
        loom.change(draw.nextInt(8));
        loom.cross(draw.nextInt(16), draw.nextInt(8));
        StringBuilder program = new StringBuilder();
        for (int words = 1 + draw.nextInt(16); words > 0; words--) {
            program.append(String.format("%02x", draw.nextInt(256)));
            program.append(words > 1 && draw.nextBoolean() ? "." : "");
        }
        Looms.type(loom, program.toString());
        return loom;
    }

    // ---- strength, words

    private int throughMask(int thread) {
        return x.threadOf(thread, 0);
    }

    private boolean isWay(int thread, int reader) {
        return thread != reader && x.threadOf(thread, 1) == 0;
    }

    /** What is said of the hops leaves no other numbers than the fewest threads of a way. */
    private void hops() {
        int[] mask = new int[16];
        boolean[] open = new boolean[16];
        for (int thread = 0; thread < 16; thread++) {
            mask[thread] = throughMask(thread);
            open[thread] = isWay(thread, -1);
        }
        for (int reader = 0; reader < 6; reader++) {
            int[] hops = new int[8];
            for (int ring = 0; ring < 8; ring++) {
                hops[ring] = x.strength(reader, ring, 1);
                due("hops 0 just in its rings", (hops[ring] == 0) == ((mask[reader] >> ring & 1) == 1));
            }
            for (int ring = 0; ring < 8; ring++) {
                if (hops[ring] != 0) {
                    due("hops of thread " + reader + " to ring " + ring, hops[ring], oneMore(reader, ring, hops, mask, open));
                }
            }
        }
    }

    /** One more than the least hops of the rings that one thread joins with this ring; NONE if there is none. */
    private int oneMore(int reader, int ring, int[] hops, int[] mask, boolean[] open) {
        int least = NONE;
        for (int thread = 0; thread < 16; thread++) {
            for (int from = 0; from < 8; from++) {
                boolean joins = thread != reader && open[thread] && from != ring
                    && (mask[thread] >> from & 1) == 1 && (mask[thread] >> ring & 1) == 1;
                if (joins && hops[from] != NONE && (least == NONE || hops[from] + 1 < least)) {
                    least = hops[from] + 1;
                }
            }
        }
        return least;
    }

    private void strengths() {
        for (int thread = 0; thread < 16; thread += 3) {
            int answering = 0;
            for (int ring = 0; ring < 8; ring++) {
                int hops = x.strength(thread, ring, 1);
                int fresh = hops == NONE || hops > 2 ? 0 : 8 - 3 * hops;
                int left = fresh - x.ringOf(ring, 0) / 10;
                due("strength", x.strength(thread, ring, 0), left < 0 ? 0 : left);
                answering |= left >= x.setting(0) ? 1 << ring : 0;
            }
            int other = x.setting(1) == 0 ? 0 : 255;
            due("the word that is told", x.threadOf(thread, 3), answering ^ other);
        }
    }

    private void threads() {
        int other = x.setting(1) == 0 ? 0 : 255;
        for (int thread = 0; thread < 16; thread++) {
            int through = throughMask(thread);
            int means = x.threadOf(thread, 2);
            int tells = x.threadOf(thread, 3);
            due("the word that is meant", means, through ^ other);
            due("unlike bits", x.threadOf(thread, 4), Integer.bitCount(means ^ tells));
            due("sneaking", x.threadOf(thread, 5), (tells ^ other) & (255 ^ through));
            due("silent", x.threadOf(thread, 6), through & (255 ^ tells ^ other));
        }
    }

    // ---- rings, counts

    private void rings() {
        int other = x.setting(1) == 0 ? 0 : 255;
        for (int ring = 0; ring < 8; ring++) {
            int through = 0;
            int answered = 0;
            int own = 0;
            for (int thread = 0; thread < 16; thread++) {
                int answers = (x.threadOf(thread, 3) ^ other) >> ring & 1;
                int goes = throughMask(thread) >> ring & 1;
                through |= goes << thread;
                answered += answers;
                own += answers & goes;
            }
            due("threads through", x.ringOf(ring, 1), through);
            due("how many", x.ringOf(ring, 2), Integer.bitCount(through));
            due("answered", x.ringOf(ring, 3), answered);
            due("worn out", x.ringOf(ring, 4), through != 0 && own == 0 ? 1 : 0);
        }
    }

    private void counts() {
        int crossings = 0;
        int readings = 0;
        int right = 0;
        int guarded = 0;
        int pairs = 0;
        int fewest = 8;
        int[] means = new int[16];
        int[] tells = new int[16];
        for (int thread = 0; thread < 16; thread++) {
            means[thread] = x.threadOf(thread, 2);
            tells[thread] = x.threadOf(thread, 3);
            crossings += Integer.bitCount(throughMask(thread));
            readings += x.threadOf(thread, 7);
            right += means[thread] == tells[thread] ? 1 : 0;
            guarded += x.threadOf(thread, 1);
            for (int other = 0; other < thread; other++) {
                pairs += tells[other] == tells[thread] ? 1 : 0;
                fewest = Math.min(fewest, Integer.bitCount(means[other] ^ means[thread]));
            }
        }
        int greatest = 0;
        int wear = 0;
        int byRings = 0;
        for (int ring = 0; ring < 8; ring++) {
            greatest = Math.max(greatest, x.ringOf(ring, 0));
            wear += x.ringOf(ring, 0);
            byRings += x.ringOf(ring, 2);
        }
        due("crossings by threads", x.count(0), crossings);
        due("crossings by rings", x.count(1), byRings);
        due("both are the same", crossings, byRings);
        due("readings", x.count(3), readings);
        due("right", x.count(4), right);
        due("guarded", x.count(5), guarded);
        due("greatest wear", x.count(6), greatest);
        due("pairs", x.count(7), pairs);
        due("fewest unlike", x.count(8), fewest);
        due("rightShare", x.rightShare() == right / 16.0);
        due("meanWear", x.meanWear() == wear / 8f);
    }

    // ---- wear

    private int[] wears(WireLoom loom) {
        int[] wears = new int[8];
        for (int ring = 0; ring < 8; ring++) {
            wears[ring] = loom.ringOf(ring, 0);
        }
        return wears;
    }

    private void dueWorn(String what, WireLoom loom, int[] before, int mask, int more) {
        for (int ring = 0; ring < 8; ring++) {
            int due = before[ring] + ((mask >> ring & 1) == 1 ? more : 0);
            due(what + ": wear of ring " + ring, loom.ringOf(ring, 0), due > 99 ? 99 : due);
        }
    }

    private void wear() {
        for (int thread = 0; thread < 16; thread += 5) {
            WireLoom y = drawn();
            int[] before = wears(y);
            int through = y.threadOf(thread, 0);
            y.read(thread);
            dueWorn("read", y, before, through, 1);
            before = wears(y);
            due("lay", y.lay(thread, 0x5a), Integer.bitCount(y.threadOf(thread, 0) ^ through));
            dueWorn("lay", y, before, y.threadOf(thread, 0) ^ through, 2);
            before = wears(y);
            y.cross(thread, 7 - thread / 3);
            dueWorn("cross", y, before, 1 << (7 - thread / 3), 2);
            before = wears(y);
            int threads = y.ringOf(thread / 3, 2);
            due("change", y.change(thread / 3), threads);
            before[thread / 3] = 0;
            dueWorn("change", y, before, 0, 0);
            due("no thread through a new ring", y.ringOf(thread / 3, 1), 0);
            y.guard(thread);
            y.set(1, 1);
            y.write(0, 15);
            dueWorn("neither guard, nor set, nor write", y, before, 0, 0);
        }
    }

    // ---- what would be, by doing it

    private void dueUnchanged() {
        due("nothing is changed", x.digest(), drawn().digest());
    }

    private void loads() {
        int best = 0;
        for (int thread = 0; thread < 16; thread++) {
            WireLoom y = drawn();
            int before = y.count(2);
            int crossings = y.load(thread);
            due("ifLoaded(" + thread + ")", x.ifLoaded(thread), crossings);
            due("crossings changed by load", y.count(2) - before, crossings);
            best = crossings < x.ifLoaded(best) ? thread : best;
        }
        due("bestPlace", x.bestPlace(), best);
        dueUnchanged();
    }

    private void guards() {
        int best = NONE;
        int most = NONE;
        for (int thread = 0; thread < 16; thread++) {
            WireLoom y = drawn();
            if (y.guard(thread) == 1 && y.count(4) > most) {
                best = thread;
                most = y.count(4);
            }
        }
        due("bestGuard", x.bestGuard(), best);
        dueUnchanged();
    }

    private void readings() {
        for (int thread = 0; thread < 16; thread += 2) {
            WireLoom y = drawn();
            int word = y.threadOf(thread, 3);
            int lasts = NONE;
            for (int done = 1; done <= 99 && lasts == NONE; done++) {
                due("read", y.read(thread), word);
                lasts = y.threadOf(thread, 3) == word ? NONE : done;
            }
            due("lastsFor(" + thread + ")", x.lastsFor(thread), lasts);
        }
        dueUnchanged();
    }

    private void goings() {
        for (int steps = 1; steps <= 99; steps += 14) {
            WireLoom y = drawn();
            int told = y.machine(8);
            int made = y.machine(7);
            int read = y.count(3);
            int done = y.go(steps);
            due("ifGone 0", x.ifGone(steps, 0), done);
            due("ifGone 1", x.ifGone(steps, 1), y.machine(1));
            due("ifGone 2", x.ifGone(steps, 2), y.machine(0));
            due("ifGone 3", x.ifGone(steps, 3), y.machine(8) - told);
            due("steps so far", y.machine(7) - made, done);
            due("a step is a reading", y.count(3) - read, done);
            due("it ends early only if it stopped", done == steps || y.machine(6) == 0);
        }
        dueUnchanged();
    }

    private void stepByStep() {
        WireLoom whole = drawn();
        WireLoom steps = drawn();
        int done = whole.go(50);
        int byOnes = 0;
        for (int i = 0; i < 50; i++) {
            byOnes += steps.go(1);
        }
        due("go as often as one step", done, byOnes);
        whole.keep(0);
        steps.keep(0);
        drain(whole);
        drain(steps);
        whole.goBack(0);
        steps.goBack(0);
        due("go is as many times one step", whole.digest(), steps.digest());
    }

    private static void drain(WireLoom loom) {
        while (loom.count(9) > 0) {
            loom.undo();
        }
    }

    private void texts() {
        for (int first = 0; first < 16; first += 5) {
            WireLoom y = drawn();
            int last = 15 - (15 - first) / 3;
            int[] told = new int[16];
            for (int thread = first; thread <= last; thread++) {
                told[thread] = y.threadOf(thread, 3);
            }
            due("write", y.write(first, last), 2 * (last - first + 1));
            due("what is written is a program", y.firstError(), 2 * (last - first + 1));
            y.load(first);
            for (int thread = first; thread <= last; thread++) {
                due("what is written is laid", y.threadOf(thread, 2), told[thread]);
            }
        }
    }

    private void snapshots() {
        WireLoom y = drawn();
        drain(y);
        y.keep(1);
        y.goBack(1);
        y.undo();
        long before = y.digest();
        y.lay(3, 77);
        y.go(9);
        y.set(0, 3);
        y.undo();
        y.undo();
        due("undo of three but one", y.undo(), 0);
        due("undo takes all back", y.digest(), before);
        y.read(2);
        y.guard(5);
        y.goBack(1);
        drain(y);
        due("goBack is undone, too", y.digest(), before);
    }

    /** Each on a loom of its own: a loom is used for at most 512 calls. */
    private static void run(long seed) {
        new RelationTest(seed).hops();
        new RelationTest(seed).strengths();
        new RelationTest(seed).threads();
        new RelationTest(seed).rings();
        new RelationTest(seed).counts();
        new RelationTest(seed).wear();
        new RelationTest(seed).loads();
        new RelationTest(seed).guards();
        new RelationTest(seed).readings();
        new RelationTest(seed).goings();
        new RelationTest(seed).stepByStep();
        new RelationTest(seed).texts();
        new RelationTest(seed).snapshots();
    }

    public static void main(String[] args) {
        for (int seed = 1; seed <= DRAWN_LOOMS && !check.failed(); seed++) {
            run(seed);
        }
        check.end();
    }
}
