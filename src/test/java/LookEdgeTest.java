/** The edges of the looks (promises 18 to 24): a test of its own for each sentence that names one. */
final class LookEdgeTest {
    private static final int NONE = WireLoom.NONE;
    /** Sixteen words, each two of which have four or eight bits unlike. */
    private static final String FAR = "00ff0ff033cc3cc355aa5aa566996996";
    private static final Sentences s = new Sentences("LookEdgeTest");

    private static void due(long got, long want) {
        s.due(got, want);
    }

    private static WireLoom allThrough() {
        return Looms.loaded("ff".repeat(16));
    }

    private static WireLoom allGuarded() {
        WireLoom x = new WireLoom();
        for (int thread = 0; thread <= 15; thread++) {
            x.guard(thread);
        }
        return x;
    }

    private static void threadOf() {
        s.test("threadOf: thread: 0 to 15", () -> {
            for (int what = 0; what <= 7; what++) {
                int property = what;
                s.range(Sentences.INDEX, 0, 15, (x, thread) -> x.threadOf(thread, property));
            }
        });
        s.test("threadOf: what is not 0 to 7", () -> {
            s.range(Sentences.ARGUMENT, 0, 7, (x, what) -> x.threadOf(0, what));
            s.range(Sentences.ARGUMENT, 0, 7, (x, what) -> x.threadOf(15, what));
        });
        s.test("threadOf 0: the rings through which it goes: none, and all", () -> {
            due(new WireLoom().threadOf(15, 0), 0);
            due(allThrough().threadOf(15, 0), 255);
            due(allThrough().threadOf(0, 0), 255);
        });
        s.test("threadOf 1: 1 if it is guarded, otherwise 0", () -> {
            due(new WireLoom().threadOf(15, 1), 0);
            due(allGuarded().threadOf(15, 1), 1);
            due(allGuarded().threadOf(0, 1), 1);
        });
        s.test("threadOf 2 and 3: words of 0 and of 255, with setting 1 as 1, too", () -> {
            WireLoom x = new WireLoom();
            x.lay(15, 255);
            due(x.threadOf(0, 2), 0);
            due(x.threadOf(0, 3), 0);
            due(x.threadOf(15, 2), 255);
            due(x.threadOf(15, 3), 255);
            x.set(1, 1);
            due(x.threadOf(0, 2), 255);
            due(x.threadOf(0, 3), 255);
            due(x.threadOf(15, 2), 0);
            due(x.threadOf(15, 3), 0);
        });
        s.test("threadOf 4: how many bits of both are unlike: none, and all", () -> {
            WireLoom x = new WireLoom();
            x.lay(15, 255);
            due(x.threadOf(15, 4), 0);
            Looms.wearTo(x, 15, 0, 29);
            due(x.threadOf(15, 4), 0);
            x.read(15);
            due(x.threadOf(15, 4), 8);
            x.set(1, 1);
            due(x.threadOf(15, 4), 8);
        });
        s.test("threadOf 5: the rings that answer though it goes past them (sneaking)", () -> {
            WireLoom x = new WireLoom();
            x.lay(14, 0x80);
            x.lay(15, 0xff);
            due(x.threadOf(14, 5), 0);
            x.set(0, 5);
            due(x.threadOf(14, 5), 0x7f);
            due(x.threadOf(15, 5), 0);
            due(x.threadOf(0, 5), 0);
            x.set(1, 1);
            due(x.threadOf(14, 5), 0x7f);
        });
        s.test("threadOf 6: the rings that do not answer though it goes through them", () -> {
            WireLoom x = new WireLoom();
            x.lay(14, 0x80);
            x.lay(15, 0xff);
            Looms.wearTo(x, 14, 7, 29);
            due(x.threadOf(15, 6), 0);
            x.read(14);
            due(x.threadOf(15, 6), 0x80);
            due(x.threadOf(14, 6), 0x80);
            due(x.threadOf(0, 6), 0);
            x.set(1, 1);
            due(x.threadOf(15, 6), 0x80);
        });
        s.test("threadOf 7: how often it was read so far (by the machine, too)", () -> {
            WireLoom x = new WireLoom();
            x.set(1, 1);
            due(x.threadOf(0, 7), 0);
            x.read(0);
            x.go(17);
            due(x.threadOf(0, 7), 3);
            due(x.threadOf(1, 7), 1);
            due(x.threadOf(15, 7), 1);
            x.start();
            due(x.threadOf(0, 7), 3);
        });
        s.test("threadOf changes nothing", () -> s.changesNothing(x -> {
            for (int i = 0; i < 128; i++) {
                x.threadOf(i / 8, i % 8);
            }
            return 0;
        }));
    }

    private static void ringOf() {
        s.test("ringOf: ring: 0 to 7", () -> {
            for (int what = 0; what <= 4; what++) {
                int property = what;
                s.range(Sentences.INDEX, 0, 7, (x, ring) -> x.ringOf(ring, property));
            }
        });
        s.test("ringOf: what is not 0 to 4", () -> {
            s.range(Sentences.ARGUMENT, 0, 4, (x, what) -> x.ringOf(0, what));
            s.range(Sentences.ARGUMENT, 0, 4, (x, what) -> x.ringOf(7, what));
        });
        s.test("ringOf 1 and 2: the threads that go through it: none", () -> {
            due(new WireLoom().ringOf(7, 1), 0);
            due(new WireLoom().ringOf(7, 2), 0);
        });
        s.test("ringOf 1 and 2: the threads that go through it: all", () -> {
            due(allThrough().ringOf(7, 1), 0xffff);
            due(allThrough().ringOf(7, 2), 16);
            due(allThrough().ringOf(0, 1), 0xffff);
        });
        s.test("ringOf 1 and 2: the threads that go through it: the first and the last one", () -> {
            WireLoom x = new WireLoom();
            x.cross(0, 7);
            due(x.ringOf(7, 1), 1);
            x.cross(15, 7);
            due(x.ringOf(7, 1), 0x8001);
            due(x.ringOf(7, 2), 2);
        });
        s.test("ringOf 3: how many threads make it answer: none", () -> {
            WireLoom x = new WireLoom();
            due(x.ringOf(0, 3), 0);
            x.set(1, 1);
            due(x.ringOf(0, 3), 0);
        });
        s.test("ringOf 3: how many threads make it answer: all", () -> {
            WireLoom x = Looms.loaded("01".repeat(14));
            due(x.ringOf(0, 3), 14);
            x.lay(14, 0x02);
            x.lay(15, 0x03);
            x.set(0, 2);
            due(x.ringOf(0, 0), 30);
            due(x.strength(14, 0, 0), 2);
            due(x.ringOf(0, 3), 16);
        });
        s.test("ringOf 3: how many threads make it answer: by sneaking alone", () -> {
            WireLoom x = Looms.chain();
            x.set(0, 5);
            due(x.ringOf(1, 2), 2);
            due(x.ringOf(1, 3), 4);
        });
        s.test("ringOf 4: 1 if it answers for no thread that goes through it, as it is worn", () -> {
            for (int least = 1; least <= 8; least++) {
                WireLoom x = new WireLoom();
                x.lay(3, 0x40);
                x.set(0, least);
                Looms.wearTo(x, 3, 6, 10 * (9 - least) - 1);
                due(x.ringOf(6, 4), 0);
                x.read(3);
                due(x.ringOf(6, 4), 1);
                due(x.ringOf(5, 4), 0);
            }
        });
        s.test("ringOf 4: and there is such a thread, otherwise 0", () -> {
            WireLoom x = new WireLoom();
            x.lay(3, 0x40);
            Looms.wearTo(x, 3, 6, 99);
            due(x.ringOf(6, 4), 1);
            x.cross(3, 6);
            due(x.ringOf(6, 0), 99);
            due(x.ringOf(6, 4), 0);
            x.cross(15, 6);
            due(x.ringOf(6, 4), 1);
            x.change(6);
            due(x.ringOf(6, 4), 0);
        });
        s.test("ringOf 4: setting 1 makes no difference", () -> {
            WireLoom x = new WireLoom();
            x.lay(3, 0x40);
            x.set(1, 1);
            due(x.ringOf(6, 4), 0);
            Looms.wearTo(x, 3, 6, 30);
            due(x.ringOf(6, 4), 1);
        });
        s.test("ringOf changes nothing", () -> s.changesNothing(x -> {
            for (int i = 0; i < 40; i++) {
                x.ringOf(i / 5, i % 5);
            }
            return 0;
        }));
    }

    private static void strength() {
        s.test("strength: thread: 0 to 15", () -> {
            s.range(Sentences.INDEX, 0, 15, (x, thread) -> x.strength(thread, 0, 0));
            s.range(Sentences.INDEX, 0, 15, (x, thread) -> x.strength(thread, 7, 1));
        });
        s.test("strength: ring: 0 to 7", () -> {
            s.range(Sentences.INDEX, 0, 7, (x, ring) -> x.strength(0, ring, 0));
            s.range(Sentences.INDEX, 0, 7, (x, ring) -> x.strength(15, ring, 1));
        });
        s.test("strength: what is not 0 or 1", () -> {
            s.range(Sentences.ARGUMENT, 0, 1, (x, what) -> x.strength(0, 0, what));
            s.range(Sentences.ARGUMENT, 0, 1, (x, what) -> x.strength(15, 7, what));
        });
        s.test("strength 1: the hops, 0 if the thread goes through the ring", () -> {
            WireLoom x = allThrough();
            for (int i = 0; i < 128; i++) {
                due(x.strength(i / 8, i % 8, 1), 0);
            }
        });
        s.test("strength 1: NONE if there is no way", () -> {
            WireLoom x = new WireLoom();
            x.lay(0, 0xff);
            for (int i = 8; i < 128; i++) {
                due(x.strength(i / 8, i % 8, 1), NONE);
            }
        });
        s.test("strength 1: the most hops that there may be", () -> {
            WireLoom x = Looms.chain();
            due(x.strength(0, 7, 1), 7);
            due(x.strength(7, 0, 1), 6);
            due(x.strength(0, 7, 0), 0);
        });
        s.test("strength changes nothing", () -> s.changesNothing(x -> {
            for (int i = 0; i < 256; i++) {
                x.strength(i / 16, i / 2 % 8, i % 2);
            }
            return 0;
        }));
    }

    private static void machine() {
        s.test("machine: what is not 0 to 8", () -> s.range(Sentences.ARGUMENT, 0, 8, WireLoom::machine));
        s.test("machine 2 to 5: its cells 0 to 3", () -> {
            WireLoom x = Looms.loaded("21.60.22.61.23.62.24.63");
            x.go(8);
            for (int cell = 0; cell <= 3; cell++) {
                due(x.machine(2 + cell), 1 + cell);
            }
            due(x.machine(1), 4);
            due(x.machine(0), 8);
        });
        s.test("machine 6: 1 if it is running, otherwise 0", () -> {
            WireLoom x = new WireLoom();
            due(x.machine(6), 1);
            x.go(1);
            due(x.machine(6), 0);
            x.start();
            due(x.machine(6), 1);
        });
        s.test("machine 7 and 8: steps so far, and how often it told something: since it began", () -> {
            WireLoom x = new WireLoom();
            x.set(1, 1);
            x.go(50);
            x.go(50);
            due(x.machine(7), 100);
            due(x.machine(8), 100);
            x.start();
            x.go(3);
            due(x.machine(7), 3);
            due(x.machine(8), 3);
            due(x.count(3), 103);
        });
        s.test("machine changes nothing", () -> s.changesNothing(x -> {
            for (int what = 0; what <= 8; what++) {
                x.machine(what);
            }
            return 0;
        }));
    }

    private static void told() {
        s.test("told: ago: 0 for the latest one, to 7", () -> s.range(Sentences.ARGUMENT, 0, 7, WireLoom::told));
        s.test("told returns NONE if it did not tell so many", () -> {
            WireLoom x = allGuarded();
            x.set(0, 1);
            Looms.type(x, "21.e0.22.e0.23.e0.24.e0.25.e0.26.e0.27.e0.28.e0");
            x.load(0);
            for (int tellings = 0; tellings <= 8; tellings++) {
                for (int ago = 0; ago <= 7; ago++) {
                    due(x.told(ago), ago < tellings ? tellings - ago : NONE);
                }
                x.go(2);
            }
        });
        s.test("told: a count of 0 that was told is no NONE", () -> {
            WireLoom x = Looms.loaded("e0");
            x.go(1);
            due(x.told(0), 0);
            due(x.told(1), NONE);
        });
        s.test("told changes nothing", () -> s.changesNothing(x -> {
            for (int ago = 0; ago <= 7; ago++) {
                x.told(ago);
            }
            return 0;
        }));
    }

    private static void count() {
        s.test("count: what is not 0 to 9", () -> s.range(Sentences.ARGUMENT, 0, 9, WireLoom::count));
        s.test("count 0 and 1: crossings that go through: none, and all", () -> {
            due(new WireLoom().count(0), 0);
            due(new WireLoom().count(1), 0);
            due(allThrough().count(0), 128);
            due(allThrough().count(1), 128);
        });
        s.test("count 0 and 1: with setting 1 as 1, too", () -> {
            WireLoom x = new WireLoom();
            x.set(1, 1);
            due(x.count(0), 0);
            due(x.count(1), 0);
            x.lay(0, 0);
            due(x.count(0), 8);
            due(x.count(1), 8);
        });
        s.test("count 2: crossings changed so far: both ways, and not by change()", () -> {
            WireLoom x = new WireLoom();
            x.cross(0, 0);
            x.cross(0, 0);
            x.cross(0, 0);
            x.change(0);
            due(x.count(2), 3);
        });
        s.test("count 3: readings so far: by read and by the machine", () -> {
            WireLoom x = new WireLoom();
            due(x.count(3), 0);
            x.read(9);
            due(x.go(99), 1);
            due(x.count(3), 2);
            x.start();
            due(x.count(3), 2);
        });
        s.test("count 4: threads that tell the word that is meant: all", () -> {
            due(new WireLoom().count(4), 16);
            due(Looms.lively().count(4) < 16 ? 1 : 0, 1);
        });
        s.test("count 4: threads that tell the word that is meant: none", () -> {
            WireLoom x = allThrough();
            due(x.ringOf(0, 0), 32);
            due(x.count(4), 0);
            x.set(0, 5);
            due(x.count(4), 16);
        });
        s.test("count 5: guarded threads: none, and all", () -> {
            due(new WireLoom().count(5), 0);
            due(allGuarded().count(5), 16);
        });
        s.test("count 6: the greatest wear: of each ring", () -> {
            for (int ring = 0; ring <= 7; ring++) {
                WireLoom x = new WireLoom();
                due(x.count(6), 0);
                x.lay(0, 255);
                x.lay(1, 1 << ring);
                due(x.count(6), 4);
                Looms.wearTo(x, 1, ring, 99);
                x.read(1);
                due(x.count(6), 99);
            }
        });
        s.test("count 7: pairs of threads that tell the same word: all", () -> {
            due(new WireLoom().count(7), 120);
            WireLoom x = new WireLoom();
            x.set(1, 1);
            due(x.count(7), 120);
        });
        s.test("count 7: pairs of threads that tell the same word: none", () -> {
            WireLoom x = Looms.loaded("000102030405060708090a0b0c0d0e0f");
            due(x.count(7), 0);
            x.lay(15, 0);
            due(x.count(7), 1);
            x.lay(14, 0);
            due(x.count(7), 3);
        });
        s.test("count 8: (0, if two mean the same word)", () -> {
            due(new WireLoom().count(8), 0);
            WireLoom x = Looms.loaded(FAR);
            x.lay(15, 0);
            due(x.count(8), 0);
            WireLoom y = Looms.loaded(FAR);
            y.lay(14, 0x96);
            due(y.count(8), 0);
        });
        s.test("count 8: the fewest unlike bits, of all pairs of threads: the most that there may be", () -> {
            WireLoom x = Looms.loaded(FAR);
            due(x.count(8), 4);
            x.set(1, 1);
            due(x.count(8), 4);
        });
        s.test("count 8: of all pairs of threads: also the first two and the last two", () -> {
            WireLoom x = Looms.loaded(FAR);
            x.lay(1, 0x01);
            due(x.count(8), 1);
            WireLoom y = Looms.loaded(FAR);
            y.lay(15, 0x6b);
            due(y.count(8), 1);
        });
        s.test("count 8: of the words that are meant, not of those that are told", () -> {
            WireLoom x = Looms.loaded(FAR);
            x.set(0, 8);
            due(x.count(7), 120);
            due(x.count(8), 4);
        });
        s.test("count 9: saved states: none, and 6", () -> {
            WireLoom x = new WireLoom();
            for (int calls = 0; calls <= 9; calls++) {
                due(x.count(9), calls < 6 ? calls : 6);
                x.guard(0);
            }
        });
        s.test("count changes nothing", () -> s.changesNothing(x -> {
            for (int what = 0; what <= 9; what++) {
                x.count(what);
            }
            return 0;
        }));
    }

    private static void setting() {
        s.test("setting: 0 or 1", () -> s.range(Sentences.INDEX, 0, 1, WireLoom::setting));
        s.test("setting returns its value: each that there may be", () -> {
            for (int value = 1; value <= 8; value++) {
                WireLoom x = new WireLoom();
                x.set(0, value);
                due(x.setting(0), value);
                due(x.setting(1), 0);
                x.set(1, 1);
                due(x.setting(0), value);
                due(x.setting(1), 1);
            }
        });
        s.test("setting changes nothing", () -> s.changesNothing(x -> x.setting(0) + x.setting(1)));
    }

    public static void main(String[] args) {
        threadOf();
        ringOf();
        strength();
        machine();
        told();
        count();
        setting();
        s.end();
    }
}
