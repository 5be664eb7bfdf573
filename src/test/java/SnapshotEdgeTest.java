/** The edges of snapshots, undo and exceptions (promises 1 and 15 to 17): a test of its own for each such sentence. */
final class SnapshotEdgeTest {
    private static final Sentences s = new Sentences("SnapshotEdgeTest");

    private static void due(long got, long want) {
        s.due(got, want);
    }

    /** A loom whose thread 0 was laid so often, each time through one more of the rings 0, 1, 2 .. */
    private static WireLoom laid(int often) {
        WireLoom x = new WireLoom();
        for (int i = 1; i <= often; i++) {
            x.lay(0, (1 << i) - 1);
        }
        return x;
    }

    private static void newObject() {
        s.test("Creates a loom whose threads go past all rings", () -> {
            WireLoom x = new WireLoom();
            due(x.count(0), 0);
            due(x.count(1), 0);
        });
        s.test("Creates a loom with empty slots", () -> {
            s.refusedOn(WireLoom::new, Sentences.STATE, x -> x.goBack(0));
            s.refusedOn(WireLoom::new, Sentences.STATE, x -> x.goBack(1));
        });
        s.test("Creates a loom with an empty buffer", () -> {
            due(new WireLoom().clearBuffer(), 0);
            due(new WireLoom().firstError(), 0);
            due(new WireLoom().append('x'), 1);
        });
        s.test("A new loom has no saved states", () -> {
            due(new WireLoom().count(9), 0);
            s.refusedOn(WireLoom::new, Sentences.STATE, WireLoom::undo);
        });
        s.test("A new loom is not touched by what is done with another one", () -> {
            Looms.busy();
            s.same(new WireLoom(), new WireLoom());
            WireLoom first = new WireLoom();
            WireLoom other = Looms.busy();
            s.same(first, new WireLoom());
            s.same(other, Looms.busy());
        });
    }

    private static void keep() {
        s.test("There are two slots: keep: slot: 0 or 1", () -> s.range(Sentences.ARGUMENT, 0, 1, WireLoom::keep));
        s.test("There are two slots: each holds a snapshot of its own", () -> {
            WireLoom x = laid(1);
            due(x.keep(0), 1);
            x.lay(0, 7);
            due(x.keep(1), 3);
            x.lay(0, 31);
            due(x.goBack(0), 1);
            due(x.threadOf(0, 0), 1);
            due(x.goBack(1), 3);
            due(x.threadOf(0, 0), 7);
        });
        s.test("keep takes a snapshot, in place of the one in the slot", () -> {
            WireLoom x = laid(1);
            x.keep(1);
            x.lay(0, 15);
            due(x.keep(1), 4);
            x.lay(0, 0);
            due(x.goBack(1), 4);
            due(x.threadOf(0, 0), 15);
        });
        s.test("keep returns how many crossings go through: none, and all", () -> {
            WireLoom x = new WireLoom();
            due(x.keep(0), 0);
            Looms.type(x, "ff".repeat(16));
            x.load(0);
            due(x.keep(0), 128);
            x.set(1, 1);
            due(x.keep(1), 128);
        });
        s.test("keep is not undoable", () -> s.savesNothing(Looms::lively, x -> x.keep(1)));
        s.test("a snapshot is all but the buffer", () -> {
            WireLoom x = Looms.typed("12");
            x.keep(0);
            Looms.type(x, "345");
            x.goBack(0);
            due(x.digest(), Looms.digestOf(x, 1, 0, "345"));
            x.clearBuffer();
            x.goBack(0);
            due(x.clearBuffer(), 0);
        });
        s.test("a snapshot is all but the slots", () -> {
            WireLoom x = laid(2);
            x.keep(0);
            x.lay(0, 0);
            x.keep(1);
            due(x.goBack(0), 2);
            due(x.goBack(1), 0);
            due(x.goBack(0), 2);
        });
        s.test("a snapshot is all but the saved states", () -> {
            WireLoom x = laid(2);
            x.keep(0);
            x.lay(0, 7);
            x.lay(0, 15);
            due(x.goBack(0), 2);
            due(x.count(9), 5);
            due(x.undo(), 4);
            due(x.count(0), 4);
            due(x.undo(), 3);
            due(x.count(0), 3);
        });
        s.test("a snapshot does not change with what is done later", () -> {
            WireLoom x = Looms.lively();
            x.keep(0);
            long kept = x.digest();
            x.undo();
            Looms.type(x, "ff".repeat(16));
            x.load(0);
            x.guard(9);
            x.start();
            x.go(20);
            x.set(1, 1);
            x.goBack(0);
            x.undo();
            x.undo();
            x.undo();
            x.goBack(0);
            Looms.type(x, "3f.e0");
            due(x.count(9), 4);
            due(x.digest(), kept);
        });
    }

    private static void goBack() {
        s.test("goBack: slot: 0 or 1", () -> s.range(Sentences.ARGUMENT, 0, 1, WireLoom::goBack));
        s.test("goBack throws IllegalStateException if there is no snapshot in it", () -> {
            s.refusedOn(() -> laid(3), Sentences.STATE, x -> x.goBack(0));
            s.refusedOn(() -> laid(3), Sentences.STATE, x -> x.goBack(1));
        });
        s.test("goBack throws IllegalStateException: also if there is one in the other slot", () -> {
            for (int slot = 0; slot <= 1; slot++) {
                int kept = slot;
                WireLoom x = laid(3);
                x.keep(kept);
                due(x.goBack(kept), 3);
                s.refusedOn(() -> {
                    WireLoom y = laid(3);
                    y.keep(kept);
                    return y;
                }, Sentences.STATE, y -> y.goBack(1 - kept));
            }
        });
        s.test("goBack: of both exceptions the one that is named first", () -> {
            s.refusedOn(WireLoom::new, Sentences.ARGUMENT, x -> x.goBack(2));
            s.refusedOn(WireLoom::new, Sentences.ARGUMENT, x -> x.goBack(-1));
        });
        s.test("Goes back to a snapshot, which stays", () -> {
            WireLoom x = laid(2);
            x.keep(1);
            for (int i = 0; i < 9; i++) {
                x.lay(1, i);
                due(x.goBack(1), 2);
                due(x.threadOf(1, 0), 0);
            }
        });
        s.test("Goes back to a snapshot, which stays: whatever is done then", () -> {
            WireLoom x = Looms.lively();
            x.goBack(1);
            x.goBack(1);
            long kept = x.digest();
            x.lay(1, 255);
            x.read(1);
            x.go(5);
            x.guard(4);
            x.set(0, 2);
            x.set(1, 1);
            x.start();
            x.go(9);
            x.change(3);
            x.goBack(1);
            due(x.digest(), kept);
        });
        s.test("goBack is undoable", () -> {
            s.undoable(Looms::lively, x -> x.goBack(0));
            s.undoable(Looms::lively, x -> x.goBack(1));
        });
        s.test("goBack saves the state also if it changes nothing", () -> {
            WireLoom x = laid(2);
            x.keep(0);
            due(x.goBack(0), 2);
            due(x.count(9), 3);
            due(x.goBack(0), 2);
            due(x.count(9), 4);
        });
        s.test("goBack returns how many crossings go through then: none, and all", () -> {
            WireLoom x = new WireLoom();
            x.keep(0);
            Looms.type(x, "ff".repeat(16));
            x.load(0);
            x.keep(1);
            due(x.goBack(0), 0);
            due(x.goBack(1), 128);
        });
        s.test("a snapshot has threads, guards, wears and settings", () -> {
            WireLoom x = laid(2);
            x.guard(15);
            x.set(0, 8);
            x.set(1, 1);
            x.keep(0);
            x.guard(15);
            x.set(0, 1);
            x.set(1, 0);
            x.lay(0, 0);
            x.goBack(0);
            due(x.threadOf(15, 1), 1);
            due(x.setting(0), 8);
            due(x.setting(1), 1);
            due(x.threadOf(0, 0), 3);
            due(x.ringOf(0, 0), 2);
        });
        s.test("a snapshot has what is counted so far", () -> {
            WireLoom x = laid(2);
            x.read(0);
            x.keep(0);
            x.read(0);
            x.read(1);
            x.lay(0, 0);
            x.goBack(0);
            due(x.count(2), 2);
            due(x.count(3), 1);
            due(x.threadOf(0, 7), 1);
            due(x.threadOf(1, 7), 0);
        });
        s.test("a snapshot has the machine, and what it told", () -> {
            WireLoom x = Looms.loaded("2a.61.e0.00");
            x.go(3);
            x.keep(0);
            x.go(1);
            x.start();
            x.goBack(0);
            due(x.machine(0), 3);
            due(x.machine(1), 10);
            due(x.machine(3), 10);
            due(x.machine(6), 1);
            due(x.machine(7), 3);
            due(x.machine(8), 1);
            due(x.told(0), 10);
            due(x.told(1), WireLoom.NONE);
        });
    }

    private static void undo() {
        s.test("At most 6 states are saved", () -> {
            for (int often = 0; often <= 6; often++) {
                due(laid(often).count(9), often);
            }
            due(laid(7).count(9), 6);
            due(laid(8).count(9), 6);
        });
        s.test("the oldest one is dropped first", () -> {
            WireLoom x = laid(7);
            for (int left = 5; left >= 0; left--) {
                due(x.undo(), left);
                due(x.count(0), left + 1);
            }
            s.due(x.count(9) == 0 && x.count(0) == 1);
        });
        s.test("the oldest one is dropped first: none as long as there are six", () -> {
            WireLoom x = laid(6);
            for (int left = 5; left >= 0; left--) {
                due(x.undo(), left);
                due(x.count(0), left);
            }
            s.same(x, new WireLoom());
        });
        s.test("the oldest one is dropped first: also often", () -> {
            WireLoom x = new WireLoom();
            for (int i = 0; i < 40; i++) {
                x.lay(15, i);
            }
            due(x.undo(), 5);
            due(x.undo(), 4);
            x.lay(14, 1);
            x.lay(14, 2);
            x.lay(14, 3);
            due(x.count(9), 6);
            for (int left = 5; left >= 4; left--) {
                due(x.undo(), left);
            }
            due(x.threadOf(14, 0), 1);
            due(x.undo(), 3);
            due(x.threadOf(14, 0), 0);
            for (int left = 2; left >= 0; left--) {
                due(x.threadOf(15, 0), 35 + left);
                due(x.undo(), left);
            }
            due(x.threadOf(15, 0), 34);
            due(x.count(9), 0);
        });
        s.test("undo throws IllegalStateException if there is none", () -> {
            s.refusedOn(WireLoom::new, Sentences.STATE, WireLoom::undo);
            s.refusedOn(Looms::full, Sentences.STATE, WireLoom::undo);
            s.refusedOn(() -> {
                WireLoom x = laid(8);
                for (int i = 0; i < 6; i++) {
                    x.undo();
                }
                return x;
            }, Sentences.STATE, WireLoom::undo);
        });
        s.test("undo restores the latest saved state, and drops it: it is not undoable itself", () -> {
            WireLoom x = laid(3);
            due(x.undo(), 2);
            due(x.count(0), 2);
            due(x.undo(), 1);
            due(x.count(0), 1);
            due(x.undo(), 0);
            due(x.count(0), 0);
        });
        s.test("undo: all, also what is counted so far", () -> {
            WireLoom x = laid(2);
            x.go(2);
            x.read(3);
            x.lay(3, 255);
            x.undo();
            due(x.count(2), 2);
            x.undo();
            due(x.count(3), 1);
            due(x.threadOf(3, 7), 0);
            due(x.undo(), 2);
            due(x.count(3), 0);
            due(x.machine(7), 0);
            due(x.machine(6), 1);
        });
        s.test("undo: but the buffer", () -> {
            WireLoom x = laid(1);
            Looms.type(x, "ab.");
            x.undo();
            due(x.digest(), Looms.digestOf(x, 0, 0, "ab."));
            WireLoom y = Looms.typed("ab");
            y.lay(0, 1);
            y.clearBuffer();
            y.undo();
            due(y.clearBuffer(), 0);
        });
        s.test("undo: but the slots", () -> {
            WireLoom x = laid(1);
            x.lay(0, 3);
            x.keep(1);
            x.undo();
            x.undo();
            due(x.goBack(1), 2);
            due(x.digest(), Looms.digestOf(x, 0, 1, ""));
        });
        s.test("undo: but the saved states", () -> {
            WireLoom x = laid(4);
            due(x.undo(), 3);
            x.lay(0, 0);
            due(x.count(9), 4);
            due(x.undo(), 3);
            due(x.count(0), 3);
        });
    }

    private static void exceptions() {
        s.test("a method that throws an exception saves no state", () -> {
            s.refused(Sentences.INDEX, x -> x.cross(0, 8));
            s.refused(Sentences.ARGUMENT, x -> x.lay(0, 256));
            s.refused(Sentences.INDEX, x -> x.guard(16));
            s.refused(Sentences.INDEX, x -> x.change(8));
            s.refused(Sentences.ARGUMENT, x -> x.set(1, 2));
            s.refused(Sentences.INDEX, x -> x.read(16));
            s.refused(Sentences.ARGUMENT, x -> x.go(0));
            s.refused(Sentences.INDEX, x -> x.load(16));
            s.refused(Sentences.ARGUMENT, x -> x.goBack(2));
        });
        s.test("(the buffer stays as it is, too)", () -> {
            for (String text : new String[] {"", "1", "12", "12.", "zz", "0".repeat(60)}) {
                s.refusedOn(() -> Looms.typed(text), Sentences.INDEX, x -> x.load(16));
                s.refusedOn(() -> Looms.typed(text), Sentences.INDEX, x -> x.write(1, 0));
                s.refusedOn(() -> Looms.typed(text), Sentences.INDEX, x -> x.write(0, 16));
                s.refusedOn(() -> Looms.typed(text), Sentences.ARGUMENT, x -> x.append(127));
                s.refusedOn(() -> Looms.typed(text), Sentences.INDEX, x -> x.ifLoaded(-1));
            }
        });
        s.test("If several exceptions apply, the one that is named first in the throws clause is thrown", () -> {
            s.refused(Sentences.INDEX, x -> x.lay(16, 256));
            s.refused(Sentences.INDEX, x -> x.lay(-1, -1));
            s.refused(Sentences.INDEX, x -> x.set(2, 9));
            s.refused(Sentences.INDEX, x -> x.set(-1, -1));
            s.refused(Sentences.INDEX, x -> x.threadOf(16, 8));
            s.refused(Sentences.INDEX, x -> x.threadOf(-1, -1));
            s.refused(Sentences.INDEX, x -> x.ringOf(8, 5));
            s.refused(Sentences.INDEX, x -> x.ringOf(-1, -1));
            s.refused(Sentences.INDEX, x -> x.strength(16, 0, 2));
            s.refused(Sentences.INDEX, x -> x.strength(0, 8, 2));
            s.refused(Sentences.INDEX, x -> x.strength(-1, -1, -1));
        });
    }

    public static void main(String[] args) {
        newObject();
        keep();
        goBack();
        undo();
        exceptions();
        s.end();
    }
}
