/** The edges of what would be (promises 27 to 32): a test of its own for each sentence that names one. */
final class WouldEdgeTest {
    private static final int NONE = WireLoom.NONE;
    private static final Sentences s = new Sentences("WouldEdgeTest");

    private static void due(long got, long want) {
        s.due(got, want);
    }

    private static void bestGuard() {
        s.test("bestGuard: of several the lowest: of all", () -> due(new WireLoom().bestGuard(), 0));
        s.test("bestGuard: of several the lowest: of those that are not guarded", () -> {
            WireLoom x = new WireLoom();
            for (int thread = 0; thread < 15; thread++) {
                x.guard(thread);
                due(x.bestGuard(), thread + 1);
            }
        });
        s.test("bestGuard returns NONE if all are guarded", () -> {
            WireLoom x = new WireLoom();
            for (int thread = 0; thread <= 15; thread++) {
                x.guard(thread);
            }
            due(x.bestGuard(), NONE);
            x.guard(15);
            due(x.bestGuard(), 15);
        });
        s.test("bestGuard: the one with whose guard the most threads would tell the word that is meant: each may be", () -> {
            for (int thread = 0; thread <= 15; thread++) {
                WireLoom x = new WireLoom();
                x.set(0, 5);
                x.lay(thread, 0x03);
                x.lay((thread + 1) % 16, 0x01);
                x.lay((thread + 5) % 16, 0x02);
                due(x.count(4), 14);
                due(x.bestGuard(), thread);
            }
        });
        s.test("bestGuard: of several the lowest: of two that help as much", () -> {
            WireLoom x = new WireLoom();
            x.set(0, 5);
            x.lay(9, 0x03);
            x.lay(10, 0x01);
            x.lay(4, 0x0c);
            x.lay(5, 0x04);
            due(x.count(4), 14);
            due(x.bestGuard(), 4);
            x.guard(4);
            due(x.bestGuard(), 9);
        });
        s.test("bestGuard: a guard that helps no thread is none the less told", () -> {
            WireLoom x = new WireLoom();
            x.lay(3, 1);
            Looms.wearTo(x, 3, 0, 99);
            due(x.count(4), 15);
            due(x.bestGuard(), 0);
        });
        s.test("bestGuard changes nothing", () -> s.changesNothing(WireLoom::bestGuard));
    }

    private static void lastsFor() {
        s.test("lastsFor: thread: 0 to 15", () -> s.range(Sentences.INDEX, 0, 15, WireLoom::lastsFor));
        s.test("lastsFor: 1 to 99: the least", () -> {
            for (int least = 1; least <= 8; least++) {
                WireLoom x = new WireLoom();
                x.lay(7, 0x10);
                x.set(0, least);
                Looms.wearTo(x, 7, 4, 10 * (9 - least) - 1);
                due(x.lastsFor(7), 1);
            }
        });
        s.test("lastsFor: 1 to 99: the most that there may be", () -> {
            WireLoom x = new WireLoom();
            x.cross(15, 7);
            x.set(0, 1);
            due(x.lastsFor(15), 78);
        });
        s.test("lastsFor returns NONE if not within these: nothing is worn", () -> {
            WireLoom x = new WireLoom();
            x.lay(1, 255);
            due(x.lastsFor(0), NONE);
            due(x.lastsFor(15), NONE);
        });
        s.test("lastsFor returns NONE if not within these: nothing answers any more", () -> {
            WireLoom x = new WireLoom();
            x.lay(1, 255);
            Looms.wearTo(x, 1, 0, 29);
            due(x.lastsFor(1), 1);
            x.read(1);
            due(x.lastsFor(1), NONE);
            Looms.wearTo(x, 1, 0, 99);
            due(x.lastsFor(1), NONE);
        });
        s.test("lastsFor returns NONE if not within these: what sneaks is not worn", () -> {
            WireLoom x = Looms.chain();
            x.set(0, 5);
            Looms.wearTo(x, 0, 0, 40);
            due(x.threadOf(0, 3), 2);
            due(x.lastsFor(0), NONE);
        });
        s.test("lastsFor: how many readings are done until threadOf(thread, 3) is another one than now", () -> {
            for (int thread = 0; thread <= 7; thread++) {
                WireLoom x = Looms.chain();
                x.set(0, 4);
                Looms.wearTo(x, 3, 2, 20);
                int readings = x.lastsFor(thread);
                int word = x.threadOf(thread, 3);
                for (int done = 1; done < readings; done++) {
                    due(x.read(thread), word);
                }
                due(x.threadOf(thread, 3), word);
                due(x.read(thread), word);
                s.due(x.threadOf(thread, 3) != word);
            }
        });
        s.test("lastsFor: the word that is told, with setting 1 as 1, too", () -> {
            WireLoom x = new WireLoom();
            x.lay(0, 1);
            x.set(1, 1);
            due(x.lastsFor(0), 28);
            due(x.lastsFor(1), NONE);
        });
        s.test("lastsFor changes nothing", () -> s.changesNothing(x -> x.lastsFor(0) + x.lastsFor(15)));
    }

    private static void ifGone() {
        s.test("ifGone: steps: 1 to 99", () -> {
            for (int what = 0; what <= 3; what++) {
                int number = what;
                s.range(Sentences.ARGUMENT, 1, 99, (x, steps) -> x.ifGone(steps, number));
            }
        });
        s.test("ifGone: what: 0 to 3", () -> {
            s.range(Sentences.ARGUMENT, 0, 3, (x, what) -> x.ifGone(1, what));
            s.range(Sentences.ARGUMENT, 0, 3, (x, what) -> x.ifGone(99, what));
        });
        s.test("ifGone: both arguments out of range", () -> {
            s.refused(Sentences.ARGUMENT, x -> x.ifGone(0, 4));
            s.refused(Sentences.ARGUMENT, x -> x.ifGone(100, -1));
        });
        s.test("ifGone: out of range also if the machine is not running", () -> {
            s.refusedOn(WouldEdgeTest::stopped, Sentences.ARGUMENT, x -> x.ifGone(0, 0));
            s.refusedOn(WouldEdgeTest::stopped, Sentences.ARGUMENT, x -> x.ifGone(100, 0));
            s.refusedOn(WouldEdgeTest::stopped, Sentences.ARGUMENT, x -> x.ifGone(1, 4));
        });
        s.test("ifGone: of a machine that is not running", () -> {
            WireLoom x = stopped();
            due(x.ifGone(99, 0), 0);
            due(x.ifGone(99, 1), 5);
            due(x.ifGone(99, 2), 3);
            due(x.ifGone(99, 3), 0);
        });
        s.test("ifGone: until it stops", () -> {
            WireLoom x = Looms.loaded("25.e0.00");
            due(x.ifGone(2, 0), 2);
            due(x.ifGone(3, 0), 3);
            due(x.ifGone(99, 0), 3);
            due(x.ifGone(99, 1), 5);
            due(x.ifGone(99, 2), 3);
            due(x.ifGone(99, 3), 1);
        });
        s.test("ifGone 2: its place then: 0 behind 15", () -> {
            WireLoom x = new WireLoom();
            x.set(1, 1);
            due(x.ifGone(15, 2), 15);
            due(x.ifGone(16, 2), 0);
            due(x.ifGone(17, 2), 1);
            due(x.ifGone(99, 2), 3);
        });
        s.test("ifGone 3: how often it tells something in these: not what it told before, and more than 8", () -> {
            WireLoom x = new WireLoom();
            x.set(1, 1);
            x.go(30);
            due(x.ifGone(1, 3), 1);
            due(x.ifGone(50, 3), 50);
            due(x.ifGone(99, 3), 99);
            due(x.machine(8), 30);
        });
        s.test("ifGone tells what go does, for each number of steps", () -> {
            for (int steps = 1; steps <= 99; steps++) {
                WireLoom x = Looms.lively();
                int tellings = x.machine(8);
                int[] want = {x.ifGone(steps, 0), x.ifGone(steps, 1), x.ifGone(steps, 2), x.ifGone(steps, 3)};
                due(x.go(steps), want[0]);
                due(x.machine(1), want[1]);
                due(x.machine(0), want[2]);
                due(x.machine(8) - tellings, want[3]);
            }
        });
        s.test("ifGone: the wear by its steps is reckoned with", () -> {
            WireLoom x = new WireLoom();
            x.lay(0, 0x80);
            due(x.ifGone(99, 0), 29);
            due(x.ifGone(28, 0), 28);
            due(x.ifGone(99, 2), 1);
            due(x.ringOf(7, 0), 2);
        });
        s.test("ifGone changes nothing", () -> s.changesNothing(x -> {
            for (int what = 0; what <= 3; what++) {
                x.ifGone(99, what);
            }
            return 0;
        }));
    }

    private static WireLoom stopped() {
        WireLoom x = Looms.loaded("25.e0.00");
        x.go(99);
        return x;
    }

    private static void shares() {
        s.test("rightShare: count(4) as a double, divided by 16: all", () -> s.due(new WireLoom().rightShare() == 1.0));
        s.test("rightShare: count(4) as a double, divided by 16: none", () -> {
            WireLoom x = Looms.loaded("ff".repeat(16));
            s.due(x.rightShare() == 0.0);
            s.due(Double.doubleToRawLongBits(x.rightShare()) == 0L);
        });
        s.test("rightShare: count(4) as a double, divided by 16: each share between", () -> {
            WireLoom x = Looms.loaded("ff".repeat(16));
            for (int right = 1; right <= 16; right++) {
                x.lay(right - 1, 0);
                due(x.count(4), right);
                s.due(x.rightShare() == right / 16.0);
            }
        });
        s.test("rightShare changes nothing", () -> s.changesNothing(x -> (long) x.rightShare()));
        s.test("meanWear: the wears of all rings together as a float, divided by 8: none", () -> {
            s.due(new WireLoom().meanWear() == 0f);
            s.due(Float.floatToRawIntBits(new WireLoom().meanWear()) == 0);
        });
        s.test("meanWear: the wears of all rings together as a float, divided by 8: the most", () -> {
            WireLoom x = new WireLoom();
            x.lay(0, 255);
            Looms.wearTo(x, 0, 0, 99);
            s.due(x.meanWear() == 99f);
            x.read(0);
            s.due(x.meanWear() == 99f);
        });
        s.test("meanWear: divided by 8, not rounded down", () -> {
            WireLoom x = new WireLoom();
            x.cross(0, 0);
            for (int wear = 2; wear <= 99; wear++) {
                s.due(x.meanWear() == wear / 8f);
                x.read(0);
            }
        });
        s.test("meanWear: of all rings: the first and the last one", () -> {
            for (int ring = 0; ring <= 7; ring++) {
                WireLoom x = new WireLoom();
                x.cross(0, ring);
                s.due(x.meanWear() == 0.25f);
            }
        });
        s.test("meanWear changes nothing", () -> s.changesNothing(x -> (long) x.meanWear()));
    }

    private static void digest() {
        s.test("digest: of a new loom", () -> {
            WireLoom x = new WireLoom();
            due(x.digest(), Looms.digestOf(x, 0, 0, ""));
            due(x.digest(), new Model().digest());
        });
        s.test("digest: an empty buffer, a full one, and each of its character codes", () -> {
            WireLoom x = Looms.full();
            due(x.digest(), Looms.digestOf(x, 0, 0, "0123456789abcdef".repeat(3) + "0123456789ab"));
            x.clearBuffer();
            due(x.digest(), new WireLoom().digest());
            x.append(33);
            due(x.digest(), Looms.digestOf(x, 0, 0, "!"));
            x.append(126);
            due(x.digest(), Looms.digestOf(x, 0, 0, "!~"));
        });
        s.test("digest: for each slot 1 if it has a snapshot, otherwise 0", () -> {
            WireLoom x = new WireLoom();
            x.keep(1);
            due(x.digest(), Looms.digestOf(x, 0, 1, ""));
            x.keep(0);
            due(x.digest(), Looms.digestOf(x, 1, 1, ""));
            WireLoom y = new WireLoom();
            y.keep(0);
            due(y.digest(), Looms.digestOf(y, 1, 0, ""));
        });
        s.test("digest: of looms with much in them", () -> {
            WireLoom x = Looms.lively();
            due(x.digest(), Looms.digestOf(x, 1, 1, "3f.e0"));
            WireLoom y = Looms.busy();
            due(y.digest(), Looms.digestOf(y, 1, 1, "3f.e0."));
        });
        s.test("digest: the bits of rightShare: none", () -> {
            WireLoom x = Looms.loaded("ff".repeat(16));
            due(x.count(4), 0);
            due(x.digest(), Looms.digestOf(x, 0, 0, ""));
        });
        s.test("digest: the bits of rightShare: each share", () -> {
            for (int right = 1; right <= 16; right++) {
                WireLoom x = Looms.loaded("ff".repeat(16));
                Looms.type(x, "00".repeat(right));
                x.load(0);
                due(x.count(4), right);
                due(x.digest(), Looms.digestOf(x, 0, 0, ""));
            }
        });
        s.test("digest: the bits of meanWear: of each sum", () -> {
            for (int sum = 2; sum <= 743; sum++) {
                WireLoom x = worn(sum);
                s.due(x.meanWear() == sum / 8f);
                due(x.digest(), Looms.digestOf(x, 0, 0, ""));
            }
        });
        s.test("digest: the bits of meanWear: of the greatest sum", () -> {
            WireLoom x = worn(792);
            s.due(x.meanWear() == 99f);
            due(x.digest(), Looms.digestOf(x, 0, 0, ""));
        });
        s.test("digest changes nothing", () -> s.changesNothing(x -> {
            due(x.digest(), x.digest());
            return 0;
        }));
    }

    /** A loom whose rings are worn so far, all together: 2 to 743, or 792. */
    private static WireLoom worn(int sum) {
        WireLoom x = new WireLoom();
        if (sum < 32) {
            x.cross(0, 7);
            Looms.wearTo(x, 0, 7, sum);
            return x;
        }
        for (int thread = 0; thread <= 7; thread++) {
            x.cross(thread, thread);
        }
        x.lay(8, 255);
        for (int readings = (sum - 32) / 8; readings > 0; readings--) {
            x.read(8);
        }
        for (int readings = (sum - 32) % 8; readings > 0; readings--) {
            x.read(3);
        }
        return x;
    }

    public static void main(String[] args) {
        bestGuard();
        lastsFor();
        ifGone();
        shares();
        digest();
        s.end();
    }
}
