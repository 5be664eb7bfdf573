/** The edges of what changes the loom (promises 2 to 9): a test of its own for each sentence that names one. */
final class ChangeEdgeTest {
    private static final int NONE = WireLoom.NONE;
    private static final Sentences s = new Sentences("ChangeEdgeTest");

    private static void due(long got, long want) {
        s.due(got, want);
    }

    private static void cross() {
        s.test("cross: thread: 0 to 15", () -> s.range(Sentences.INDEX, 0, 15, (x, thread) -> x.cross(thread, 0)));
        s.test("cross: ring: 0 to 7", () -> s.range(Sentences.INDEX, 0, 7, (x, ring) -> x.cross(0, ring)));
        s.test("cross: no such thread and no such ring", () -> {
            s.refused(Sentences.INDEX, x -> x.cross(16, 8));
            s.refused(Sentences.INDEX, x -> x.cross(-1, -1));
            s.refused(Sentences.INDEX, x -> x.cross(8, 15));
        });
        s.test("cross returns 1 if the thread goes through the ring then", () -> {
            for (int thread = 0; thread <= 15; thread++) {
                WireLoom x = new WireLoom();
                for (int ring = 0; ring <= 7; ring++) {
                    due(x.cross(thread, ring), 1);
                    due(x.threadOf(thread, 0), (2 << ring) - 1);
                }
            }
        });
        s.test("cross returns otherwise 0", () -> {
            for (int thread = 0; thread <= 15; thread++) {
                WireLoom x = new WireLoom();
                x.lay(thread, 255);
                for (int ring = 0; ring <= 7; ring++) {
                    due(x.cross(thread, ring), 0);
                    due(x.threadOf(thread, 0), 255 - ((2 << ring) - 1));
                }
            }
        });
        s.test("cross returns the same with setting 1 as 1", () -> {
            WireLoom x = new WireLoom();
            x.set(1, 1);
            due(x.cross(0, 0), 1);
            due(x.cross(0, 0), 0);
        });
        s.test("cross is undoable", () -> {
            s.undoable(WireLoom::new, x -> x.cross(15, 7));
            s.undoable(Looms::lively, x -> x.cross(0, 0));
        });
    }

    private static void lay() {
        s.test("lay: thread: 0 to 15", () -> s.range(Sentences.INDEX, 0, 15, (x, thread) -> x.lay(thread, 7)));
        s.test("lay: word: 0 to 255", () -> s.range(Sentences.ARGUMENT, 0, 255, (x, word) -> x.lay(3, word)));
        s.test("lay: each word of 0 to 255 is meant then", () -> {
            for (int word = 0; word <= 255; word++) {
                WireLoom x = new WireLoom();
                due(x.lay(15, word), Integer.bitCount(word));
                due(x.threadOf(15, 2), word);
                due(x.threadOf(15, 0), word);
                WireLoom y = new WireLoom();
                y.set(1, 1);
                due(y.lay(15, word), 8 - Integer.bitCount(word));
                due(y.threadOf(15, 2), word);
                due(y.threadOf(15, 0), 255 - word);
            }
        });
        s.test("lay: all crossings that are otherwise are changed, no other ones", () -> {
            WireLoom x = new WireLoom();
            x.lay(4, 0x0f);
            due(x.lay(4, 0x3c), 4);
            int[] wear = {4, 4, 2, 2, 2, 2, 0, 0};
            for (int ring = 0; ring <= 7; ring++) {
                due(x.ringOf(ring, 0), wear[ring]);
            }
        });
        s.test("lay returns how many crossings are changed: none", () -> {
            WireLoom x = new WireLoom();
            due(x.lay(0, 0), 0);
            x.lay(0, 0xa5);
            due(x.lay(0, 0xa5), 0);
            due(x.ringOf(0, 0), 2);
            due(x.count(2), 4);
        });
        s.test("lay returns how many crossings are changed: all", () -> {
            WireLoom x = new WireLoom();
            due(x.lay(0, 0xa5), 4);
            due(x.lay(0, 0x5a), 8);
            due(x.count(2), 12);
        });
        s.test("lay: the word is meant, whatever is told", () -> {
            WireLoom x = Looms.chain();
            x.set(0, 1);
            due(x.threadOf(0, 3), 7);
            due(x.lay(0, 7), 2);
            due(x.threadOf(0, 2), 7);
        });
        s.test("lay is undoable, also if it changes nothing", () -> {
            s.undoable(WireLoom::new, x -> x.lay(0, 0));
            s.undoable(Looms::lively, x -> x.lay(15, 255));
            s.undoable(Looms::lively, x -> x.lay(0, 0x25));
        });
    }

    private static void guard() {
        s.test("guard: thread: 0 to 15", () -> s.range(Sentences.INDEX, 0, 15, WireLoom::guard));
        s.test("guard returns 1 if it is guarded then, otherwise 0", () -> {
            for (int thread = 0; thread <= 15; thread++) {
                WireLoom x = new WireLoom();
                for (int guarded = 1; guarded >= 0; guarded--) {
                    due(x.guard(thread), guarded);
                    for (int other = 0; other <= 15; other++) {
                        due(x.threadOf(other, 1), other == thread ? guarded : 0);
                    }
                }
            }
        });
        s.test("guard wears nothing", () -> {
            WireLoom x = Looms.chain();
            x.guard(1);
            due(x.ringOf(0, 0), 4);
            due(x.ringOf(1, 0), 4);
            due(x.count(2), 15);
        });
        s.test("guard is undoable", () -> {
            s.undoable(WireLoom::new, x -> x.guard(15));
            s.undoable(Looms::lively, x -> x.guard(2));
        });
    }

    private static void change() {
        s.test("change: ring: 0 to 7", () -> s.range(Sentences.INDEX, 0, 7, WireLoom::change));
        s.test("change: its wear is 0, and all threads go past it", () -> {
            for (int ring = 0; ring <= 7; ring++) {
                WireLoom x = Looms.typed("ff".repeat(16));
                x.load(0);
                x.read(0);
                due(x.change(ring), 16);
                for (int other = 0; other <= 7; other++) {
                    due(x.ringOf(other, 0), other == ring ? 0 : 33);
                    due(x.ringOf(other, 2), other == ring ? 0 : 16);
                }
                for (int thread = 0; thread <= 15; thread++) {
                    due(x.threadOf(thread, 0), 255 - (1 << ring));
                }
            }
        });
        s.test("(these count as no crossings changed)", () -> {
            WireLoom x = Looms.typed("ff".repeat(16));
            x.load(0);
            due(x.count(2), 128);
            x.change(0);
            x.change(7);
            due(x.count(2), 128);
            due(x.count(0), 96);
        });
        s.test("change: the greatest wear is taken off, too", () -> {
            WireLoom x = new WireLoom();
            x.lay(0, 0x80);
            Looms.wearTo(x, 0, 7, 99);
            due(x.change(7), 1);
            due(x.ringOf(7, 0), 0);
            due(x.cross(0, 7), 1);
            due(x.ringOf(7, 0), 2);
            due(x.strength(0, 7, 0), 8);
        });
        s.test("change returns how many threads went through it: none", () -> {
            WireLoom x = new WireLoom();
            due(x.change(0), 0);
            x.cross(3, 0);
            x.cross(3, 0);
            due(x.change(0), 0);
            due(x.ringOf(0, 0), 0);
        });
        s.test("change returns how many threads went through it: also guarded ones", () -> {
            WireLoom x = new WireLoom();
            x.cross(0, 2);
            x.cross(15, 2);
            x.guard(15);
            due(x.change(2), 2);
            due(x.threadOf(15, 1), 1);
            due(x.ringOf(2, 1), 0);
            due(x.threadOf(15, 0), 0);
        });
        s.test("change with setting 1 as 1: all threads go past it", () -> {
            WireLoom x = new WireLoom();
            x.cross(1, 1);
            x.set(1, 1);
            due(x.change(1), 1);
            due(x.threadOf(1, 2), 255);
        });
        s.test("change is undoable, also if it changes nothing", () -> {
            s.undoable(WireLoom::new, x -> x.change(3));
            s.undoable(Looms::lively, x -> x.change(0));
            s.undoable(Looms::lively, x -> x.change(7));
        });
    }

    private static void set() {
        s.test("set: setting: 0 or 1", () -> s.range(Sentences.INDEX, 0, 1, (x, setting) -> x.set(setting, 1)));
        s.test("set throws IllegalArgumentException if value is out of range: of the setting 0, 1 to 8", () ->
            s.range(Sentences.ARGUMENT, 1, 8, (x, value) -> x.set(0, value)));
        s.test("set throws IllegalArgumentException if value is out of range: of the setting 1, 0 or 1", () ->
            s.range(Sentences.ARGUMENT, 0, 1, (x, value) -> x.set(1, value)));
        s.test("set returns the previous value", () -> {
            WireLoom x = new WireLoom();
            due(x.set(0, 8), 6);
            due(x.set(0, 8), 8);
            due(x.set(0, 1), 8);
            due(x.set(1, 0), 0);
            due(x.set(1, 1), 0);
            due(x.set(1, 1), 1);
            due(x.setting(0), 1);
            due(x.setting(1), 1);
        });
        s.test("set is undoable, also if it changes nothing", () -> {
            s.undoable(WireLoom::new, x -> x.set(0, 6));
            s.undoable(WireLoom::new, x -> x.set(1, 0));
            s.undoable(Looms::lively, x -> x.set(0, 8));
            s.undoable(Looms::lively, x -> x.set(1, 1));
        });
    }

    private static void read() {
        s.test("read: thread: 0 to 15", () -> s.range(Sentences.INDEX, 0, 15, WireLoom::read));
        s.test("read returns the word that it tells, as the rings were ahead of it", () -> {
            for (int least = 1; least <= 8; least++) {
                WireLoom x = new WireLoom();
                x.set(0, least);
                x.lay(0, 0xff);
                int lost = 10 * (9 - least);
                Looms.wearTo(x, 0, 0, lost - 1);
                due(x.read(0), 255);
                due(x.ringOf(7, 0), lost);
                due(x.read(0), 0);
            }
        });
        s.test("read of a thread that goes past all rings wears none", () -> {
            WireLoom x = new WireLoom();
            x.lay(1, 255);
            due(x.read(0), 0);
            due(x.ringOf(0, 0), 2);
            due(x.threadOf(0, 7), 1);
            due(x.count(3), 1);
        });
        s.test("read of a thread that goes through all rings wears each", () -> {
            WireLoom x = new WireLoom();
            x.lay(15, 255);
            due(x.read(15), 255);
            for (int ring = 0; ring <= 7; ring++) {
                due(x.ringOf(ring, 0), 3);
            }
        });
        s.test("read: at the greatest wear", () -> {
            WireLoom x = new WireLoom();
            x.lay(0, 0x05);
            Looms.wearTo(x, 0, 0, 99);
            due(x.read(0), 0);
            due(x.ringOf(0, 0), 99);
            due(x.ringOf(2, 0), 99);
            due(x.count(3), 98);
        });
        s.test("read leaves the machine as it is", () -> {
            WireLoom x = Looms.loaded("35");
            x.read(0);
            due(x.machine(0), 0);
            due(x.machine(1), 0);
            due(x.machine(7), 0);
        });
        s.test("read is undoable", () -> {
            s.undoable(WireLoom::new, x -> x.read(0));
            s.undoable(Looms::lively, x -> x.read(15));
        });
    }

    private static void start() {
        s.test("start: as at first, running", () -> {
            WireLoom x = Looms.loaded("35.60.61.62.63.e0.c1.00");
            x.go(99);
            due(x.machine(6), 0);
            x.start();
            for (int what = 0; what <= 8; what++) {
                due(x.machine(what), what == 6 ? 1 : 0);
            }
            for (int ago = 0; ago <= 7; ago++) {
                due(x.told(ago), NONE);
            }
            due(x.go(1), 1);
            due(x.machine(1), 21);
        });
        s.test("start: all of what it told is forgotten, also of more than 8", () -> {
            WireLoom x = new WireLoom();
            x.set(1, 1);
            x.go(20);
            due(x.start(), 20);
            due(x.machine(8), 0);
            x.go(2);
            due(x.machine(8), 2);
            due(x.told(1), 0);
            due(x.told(2), NONE);
        });
        s.test("start returns how many steps it made so far: none", () -> {
            WireLoom x = new WireLoom();
            due(x.start(), 0);
            due(x.start(), 0);
        });
        s.test("start returns how many steps it made so far: of several calls", () -> {
            WireLoom x = new WireLoom();
            x.set(1, 1);
            x.go(99);
            x.go(99);
            x.go(1);
            due(x.machine(7), 199);
            due(x.start(), 199);
            due(x.start(), 0);
        });
        s.test("start leaves the loom as it is", () -> {
            WireLoom x = Looms.loaded("35.60.00");
            x.go(99);
            x.start();
            due(x.count(3), 3);
            due(x.threadOf(0, 7), 1);
            due(x.ringOf(0, 0), 3);
            due(x.count(2), 6);
        });
        s.test("start is undoable, also if it changes nothing", () -> {
            s.undoable(WireLoom::new, WireLoom::start);
            s.undoable(Looms::lively, WireLoom::start);
        });
    }

    private static void go() {
        s.test("go: steps: 1 to 99", () -> s.range(Sentences.ARGUMENT, 1, 99, WireLoom::go));
        s.test("go lets the machine make steps: each number of 1 to 99", () -> {
            for (int steps = 1; steps <= 99; steps++) {
                WireLoom x = new WireLoom();
                x.set(1, 1);
                due(x.go(steps), steps);
                due(x.machine(7), steps);
                due(x.count(3), steps);
                due(x.machine(0), steps % 16);
                due(x.machine(8), steps);
            }
        });
        s.test("until it stops: the step by which it stops is made, too", () -> {
            due(new WireLoom().go(99), 1);
            due(Looms.loaded("21.22.23.00").go(99), 4);
            due(Looms.loaded("21.22.23.00").go(4), 4);
            WireLoom x = Looms.loaded("21.22.23.00");
            due(x.go(3), 3);
            due(x.machine(6), 1);
            due(x.go(99), 1);
            due(x.machine(6), 0);
        });
        s.test("(0 if it is not running)", () -> {
            WireLoom x = new WireLoom();
            x.go(1);
            due(x.go(1), 0);
            due(x.go(99), 0);
            due(x.machine(0), 1);
            due(x.machine(7), 1);
            due(x.count(3), 1);
            due(x.threadOf(1, 7), 0);
        });
        s.test("go: it wears the loom by that, till it stops", () -> {
            WireLoom x = new WireLoom();
            x.lay(0, 0x80);
            due(x.go(99), 29);
            due(x.ringOf(7, 0), 31);
            due(x.machine(6), 0);
            due(x.threadOf(0, 7), 29);
        });
        s.test("go is undoable, as one call", () -> {
            s.undoable(WireLoom::new, x -> x.go(1));
            s.undoable(Looms::lively, x -> x.go(99));
        });
        s.test("go is undoable, also if it changes nothing", () -> {
            WireLoom x = new WireLoom();
            x.go(1);
            due(x.go(99), 0);
            due(x.count(9), 2);
            due(x.undo(), 1);
            due(x.machine(6), 0);
            due(x.undo(), 0);
            due(x.machine(6), 1);
        });
    }

    public static void main(String[] args) {
        cross();
        lay();
        guard();
        change();
        set();
        read();
        start();
        go();
        s.end();
    }
}
