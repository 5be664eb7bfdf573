/** Each promise of the document by runs made by hand; the due answers are worked out from its words. */
final class PromiseTest {
    private static final Class<IndexOutOfBoundsException> INDEX = IndexOutOfBoundsException.class;
    private static final Class<IllegalArgumentException> ARGUMENT = IllegalArgumentException.class;
    private static final Class<IllegalStateException> STATE = IllegalStateException.class;
    private static final int NONE = WireLoom.NONE;

    private static final Check check = new Check("PromiseTest");

    private static void due(String what, long got, long want) {
        check.due(what, got, want);
    }

    private static void dueThrow(String what, WireLoom x, Class<? extends RuntimeException> kind, Check.Call call) {
        check.dueThrow(what, x, kind, call);
    }

    private static void p1NewObject() {
        WireLoom x = new WireLoom();
        for (int t = 0; t < 16; t++) {
            for (int what = 0; what < 8; what++) {
                due("p1 threadOf(" + t + ", " + what + ")", x.threadOf(t, what), 0);
            }
        }
        for (int r = 0; r < 8; r++) {
            for (int what = 0; what < 5; what++) {
                due("p1 ringOf(" + r + ", " + what + ")", x.ringOf(r, what), 0);
            }
        }
        due("p1 setting 0", x.setting(0), 6);
        due("p1 setting 1", x.setting(1), 0);
        for (int what = 0; what < 9; what++) {
            due("p1 machine(" + what + ")", x.machine(what), what == 6 ? 1 : 0);
        }
        for (int what = 0; what < 10; what++) {
            due("p1 count(" + what + ")", x.count(what), what == 4 ? 16 : what == 7 ? 120 : 0);
        }
        due("p1 told", x.told(0), NONE);
        dueThrow("p1 goBack(0)", x, STATE, () -> x.goBack(0));
        dueThrow("p1 goBack(1)", x, STATE, () -> x.goBack(1));
        dueThrow("p1 undo()", x, STATE, () -> x.undo());
        due("p1 empty buffer", x.clearBuffer(), 0);
        due("p1 NONE", NONE, -1);
    }

    private static void p2Cross() {
        WireLoom x = new WireLoom();
        due("p2 through", x.cross(15, 7), 1);
        due("p2 mask", x.threadOf(15, 0), 128);
        due("p2 wear", x.ringOf(7, 0), 2);
        due("p2 past", x.cross(15, 7), 0);
        due("p2 wear of both", x.ringOf(7, 0), 4);
        due("p2 other ring", x.ringOf(6, 0), 0);
        due("p2 changed", x.count(2), 2);
        due("p2 saved", x.count(9), 2);
        for (int i = 0; i < 60; i++) {
            x.cross(0, 0);
        }
        due("p2 wear at most 99", x.ringOf(0, 0), 99);
        due("p2 changed beyond the greatest wear", x.count(2), 62);
        dueThrow("p2 cross(16, 0)", x, INDEX, () -> x.cross(16, 0));
        dueThrow("p2 cross(-1, 0)", x, INDEX, () -> x.cross(-1, 0));
        dueThrow("p2 cross(0, 8)", x, INDEX, () -> x.cross(0, 8));
        dueThrow("p2 cross(0, -1)", x, INDEX, () -> x.cross(0, -1));
    }

    private static void p3Lay() {
        WireLoom x = new WireLoom();
        due("p3 lay 5", x.lay(3, 5), 2);
        due("p3 lay 6", x.lay(3, 6), 2);
        due("p3 mask", x.threadOf(3, 0), 6);
        due("p3 wear of ring 0", x.ringOf(0, 0), 4);
        due("p3 wear of ring 1", x.ringOf(1, 0), 2);
        due("p3 wear of ring 2", x.ringOf(2, 0), 2);
        due("p3 the same", x.lay(3, 6), 0);
        due("p3 saved though nothing changed", x.count(9), 3);
        due("p3 changed", x.count(2), 4);
        x.set(1, 1);
        due("p3 missing: past all", x.lay(4, 255), 0);
        due("p3 missing: through all", x.lay(4, 0), 8);
        due("p3 missing: mask", x.threadOf(4, 0), 255);
        due("p3 missing: lay what is meant", x.lay(3, 255 - 6), 0);
        dueThrow("p3 lay(16, 0)", x, INDEX, () -> x.lay(16, 0));
        dueThrow("p3 lay(-1, 256)", x, INDEX, () -> x.lay(-1, 256));
        dueThrow("p3 lay(0, 256)", x, ARGUMENT, () -> x.lay(0, 256));
        dueThrow("p3 lay(0, -1)", x, ARGUMENT, () -> x.lay(0, -1));
    }

    private static void p4Guard() {
        WireLoom x = Looms.chain();
        due("p4 one hop", x.strength(0, 1, 1), 1);
        due("p4 guarded", x.guard(1), 1);
        due("p4 no way by a guarded one", x.strength(0, 1, 1), NONE);
        due("p4 it drives all the same", x.strength(1, 0, 0), 8);
        due("p4 and sneaks itself", x.strength(1, 2, 1), 1);
        due("p4 no guard", x.guard(1), 0);
        due("p4 one hop again", x.strength(0, 1, 1), 1);
        due("p4 saved", x.count(9), 6);
        x.undo();
        due("p4 undone", x.threadOf(1, 1), 1);
        due("p4 not worn", x.ringOf(0, 0), 4);
        dueThrow("p4 guard(16)", x, INDEX, () -> x.guard(16));
        dueThrow("p4 guard(-1)", x, INDEX, () -> x.guard(-1));
    }

    private static void p5Change() {
        WireLoom x = new WireLoom();
        x.lay(0, 3);
        x.lay(9, 2);
        x.lay(15, 255);
        due("p5 threads", x.change(1), 3);
        due("p5 wear", x.ringOf(1, 0), 0);
        due("p5 nothing through", x.ringOf(1, 1), 0);
        due("p5 thread 0", x.threadOf(0, 0), 1);
        due("p5 thread 9", x.threadOf(9, 0), 0);
        due("p5 thread 15", x.threadOf(15, 0), 253);
        due("p5 other wear", x.ringOf(0, 0), 4);
        due("p5 no crossings changed", x.count(2), 11);
        due("p5 crossings", x.count(0), 8);
        due("p5 new already", x.change(1), 0);
        due("p5 saved", x.count(9), 5);
        x.undo();
        x.undo();
        due("p5 undone", x.ringOf(1, 2), 3);
        due("p5 wear undone", x.ringOf(1, 0), 6);
        dueThrow("p5 change(8)", x, INDEX, () -> x.change(8));
        dueThrow("p5 change(-1)", x, INDEX, () -> x.change(-1));
    }

    private static void p6Set() {
        WireLoom x = new WireLoom();
        due("p6 first", x.set(0, 1), 6);
        due("p6 second", x.set(0, 8), 1);
        due("p6 the same", x.set(0, 8), 8);
        due("p6 words", x.set(1, 1), 0);
        due("p6 words back", x.set(1, 0), 1);
        due("p6 saved", x.count(9), 5);
        x.undo();
        due("p6 undone", x.setting(1), 1);
        dueThrow("p6 set(2, 0)", x, INDEX, () -> x.set(2, 0));
        dueThrow("p6 set(-1, 99)", x, INDEX, () -> x.set(-1, 99));
        dueThrow("p6 set(0, 0)", x, ARGUMENT, () -> x.set(0, 0));
        dueThrow("p6 set(0, 9)", x, ARGUMENT, () -> x.set(0, 9));
        dueThrow("p6 set(1, -1)", x, ARGUMENT, () -> x.set(1, -1));
        dueThrow("p6 set(1, 2)", x, ARGUMENT, () -> x.set(1, 2));
    }

    private static void p7Read() {
        WireLoom x = new WireLoom();
        x.lay(2, 0x81);
        due("p7 word", x.read(2), 0x81);
        due("p7 wear", x.ringOf(0, 0), 3);
        due("p7 wear of the other ring", x.ringOf(7, 0), 3);
        due("p7 ring past", x.ringOf(1, 0), 0);
        due("p7 readings", x.count(3), 1);
        due("p7 of the thread", x.threadOf(2, 7), 1);
        Looms.wearTo(x, 2, 0, 29);
        due("p7 the word as the rings were ahead", x.read(2), 0x81);
        due("p7 worn", x.ringOf(0, 0), 30);
        due("p7 then another word", x.read(2), 0);
        Looms.wearTo(x, 2, 0, 99);
        x.read(2);
        due("p7 wear at most 99", x.ringOf(0, 0), 99);
        due("p7 saved", x.count(9), 6);
        x.undo();
        due("p7 readings undone", x.count(3), 97);
        due("p7 of the thread undone", x.threadOf(2, 7), 97);
        x.set(1, 1);
        due("p7 missing", x.read(3), 255);
        dueThrow("p7 read(16)", x, INDEX, () -> x.read(16));
        dueThrow("p7 read(-1)", x, INDEX, () -> x.read(-1));
    }

    private static void p8Start() {
        WireLoom x = Looms.loaded("35.62.63.60.61.e0");
        x.go(7);
        due("p8 stopped", x.machine(6), 0);
        due("p8 steps", x.start(), 7);
        for (int what = 0; what < 9; what++) {
            due("p8 machine(" + what + ")", x.machine(what), what == 6 ? 1 : 0);
        }
        due("p8 told", x.told(0), NONE);
        due("p8 wear stays", x.threadOf(0, 7), 1);
        due("p8 again", x.start(), 0);
        due("p8 saved", x.count(9), 4);
        x.undo();
        x.undo();
        due("p8 undone: steps", x.machine(7), 7);
        due("p8 undone: cell", x.machine(4), 21);
        due("p8 undone: told", x.told(0), 21);
    }

    private static void p9Go() {
        WireLoom x = Looms.loaded("3f.60.40.c5.e0.a0.00");
        due("p9 some steps", x.go(1), 1);
        due("p9 order 1", x.machine(1), 31);
        x.go(1);
        due("p9 order 3", x.machine(2), 31);
        x.go(1);
        due("p9 order 2", x.machine(1), 62);
        x.go(1);
        due("p9 order 6", x.machine(1), 57);
        x.go(1);
        due("p9 order 7", x.told(0), 57);
        x.go(1);
        due("p9 order 5 with a count", x.machine(0), 6);
        due("p9 order 0", x.go(99), 1);
        due("p9 place behind the stop", x.machine(0), 7);
        due("p9 not running", x.go(99), 0);
        due("p9 saved all the same", x.count(9), 6);
        due("p9 readings", x.count(3), 7);
        due("p9 worn by reading", x.ringOf(0, 0), 6);
        x.undo();
        x.undo();
        due("p9 undone as one", x.machine(7), 6);
        dueThrow("p9 go(0)", x, ARGUMENT, () -> x.go(0));
        dueThrow("p9 go(100)", x, ARGUMENT, () -> x.go(100));
        dueThrow("p9 go(-1)", x, ARGUMENT, () -> x.go(-1));
    }

    private static void p9Orders() {
        WireLoom jump = Looms.loaded("9e");
        jump.go(1);
        due("p9 order 4 modulo 16", jump.machine(0), 14);
        WireLoom zero = Looms.loaded("bf");
        zero.go(1);
        due("p9 order 5 without a count", zero.machine(0), 15);
        WireLoom below = Looms.loaded("dfe0");
        due("p9 two steps", below.go(2), 2);
        due("p9 counts below 0", below.told(0), 225);
        WireLoom above = Looms.loaded("df5c7f40");
        above.go(1);
        due("p9 cells are empty", above.go(1), 1);
        due("p9 count", above.machine(1), 225);
        above.go(1);
        due("p9 cell modulo 4", above.machine(5), 225);
        WireLoom sum = Looms.loaded("df634b43");
        sum.go(4);
        due("p9 counts beyond 255", sum.machine(1), (225 + 225 + 225) % 256);
        WireLoom ring = Looms.loaded("8f");
        Looms.type(ring, "21");
        ring.load(15);
        ring.go(2);
        due("p9 behind 15 comes 0", ring.machine(0), 0);
        due("p9 the word of thread 15", ring.machine(1), 1);
        WireLoom empty = new WireLoom();
        empty.set(1, 1);
        due("p9 99 steps", empty.go(99), 99);
        due("p9 told often", empty.machine(8), 99);
        due("p9 around and around", empty.machine(0), 3);
    }

    private static void p10Append() {
        WireLoom x = new WireLoom();
        due("p10 first", x.append(33), 1);
        due("p10 second", x.append(126), 2);
        dueThrow("p10 append(32)", x, ARGUMENT, () -> x.append(32));
        dueThrow("p10 append(127)", x, ARGUMENT, () -> x.append(127));
        dueThrow("p10 append(-1)", x, ARGUMENT, () -> x.append(-1));
        for (int i = 3; i <= 60; i++) {
            due("p10 length", x.append('0'), i);
        }
        dueThrow("p10 full", x, STATE, () -> x.append('0'));
        dueThrow("p10 full and wrong", x, ARGUMENT, () -> x.append(32));
        due("p10 not undoable", x.count(9), 0);
        due("p10 length then", x.clearBuffer(), 60);
    }

    private static void p11ClearBuffer() {
        WireLoom x = new WireLoom();
        due("p11 empty", x.clearBuffer(), 0);
        Looms.type(x, "xyz");
        due("p11 three", x.clearBuffer(), 3);
        due("p11 empty then", x.clearBuffer(), 0);
        due("p11 begins anew", x.append('1'), 1);
        due("p11 not undoable", x.count(9), 0);
    }

    private static void dueError(String text, int want) {
        WireLoom x = new WireLoom();
        Looms.type(x, text);
        due("p12 " + text, x.firstError(), want);
    }

    private static void p12FirstError() {
        dueError("", 0);
        dueError("0", 1);
        dueError("0f", 2);
        dueError("0f.", 3);
        dueError("0f9a", 4);
        dueError("0f.9a", 5);
        dueError("0f..", 3);
        dueError(".0f", 0);
        dueError("0.f", 1);
        dueError("F0", 0);
        dueError("0A", 1);
        dueError("0g", 1);
        dueError("`a", 0);
        dueError("/0", 0);
        dueError("0:", 1);
        dueError("01-02", 2);
        dueError("0f.x.y", 3);
        String fifteen = "000102030405060708090a0b0c0d0e";
        dueError(fifteen + ".", 31);
        dueError(fifteen + "0f", 32);
        dueError(fifteen + "0f.", 32);
        dueError(fifteen + "0f1", 32);
        String dotted = "00.01.02.03.04.05.06.07.08.09.0a.0b.0c.0d.0e.";
        dueError(dotted + "0f", 47);
        dueError(dotted + "0f.", 47);
        dueError(dotted + "0f00", 47);
    }

    private static void p13Load() {
        WireLoom x = new WireLoom();
        Looms.type(x, "0103.07");
        due("p13 changed", x.load(15), 6);
        due("p13 thread 15", x.threadOf(15, 0), 1);
        due("p13 thread 0", x.threadOf(0, 0), 3);
        due("p13 thread 1", x.threadOf(1, 0), 7);
        due("p13 worn", x.ringOf(0, 0), 6);
        due("p13 changed so far", x.count(2), 6);
        due("p13 buffer", x.clearBuffer(), 0);
        due("p13 saved as one", x.count(9), 1);
        x.undo();
        due("p13 undone", x.count(0), 0);
        due("p13 the buffer stays empty", x.clearBuffer(), 0);
        x.set(1, 1);
        Looms.type(x, "fe");
        due("p13 missing", x.load(2), 1);
        due("p13 missing: thread", x.threadOf(2, 0), 1);
        dueThrow("p13 nothing", x, ARGUMENT, () -> x.load(0));
        for (String text : new String[] {"0", "00.", "00.1", "0G", "00..11"}) {
            Looms.type(x, text);
            dueThrow("p13 load of " + text, x, ARGUMENT, () -> x.load(0));
            dueThrow("p13 load(16) of " + text, x, INDEX, () -> x.load(16));
        }
        Looms.type(x, "11");
        dueThrow("p13 load(16)", x, INDEX, () -> x.load(16));
        dueThrow("p13 load(-1)", x, INDEX, () -> x.load(-1));
        due("p13 the buffer stays", x.clearBuffer(), 2);
        Looms.type(x, "000102030405060708090a0b0c0d0e0f");
        x.load(3);
        due("p13 sixteen words", x.threadOf(2, 2), 15);
    }

    private static void p14Write() {
        WireLoom x = new WireLoom();
        x.lay(0, 0x81);
        x.lay(1, 0x7e);
        Looms.type(x, "what.was.there");
        due("p14 length", x.write(0, 1), 4);
        due("p14 a program", x.firstError(), 4);
        due("p14 just these words", x.ifLoaded(0), 0);
        due("p14 without wear", x.ringOf(0, 0), 2);
        due("p14 without readings", x.count(3), 0);
        due("p14 not undoable", x.count(9), 2);
        long dot = x.append('.');
        due("p14 a dot fits behind", x.firstError(), dot);
        due("p14 all", x.write(0, 15), 32);
        Looms.wearTo(x, 0, 0, 30);
        x.write(0, 0);
        x.load(5);
        due("p14 the word that is told, not meant", x.threadOf(5, 2), 0);
        WireLoom y = new WireLoom();
        y.lay(4, 0x9a);
        y.write(4, 4);
        y.load(6);
        due("p14 digits", y.threadOf(6, 2), 0x9a);
        dueThrow("p14 write(16, 16)", x, INDEX, () -> x.write(16, 16));
        dueThrow("p14 write(0, 16)", x, INDEX, () -> x.write(0, 16));
        dueThrow("p14 write(-1, 3)", x, INDEX, () -> x.write(-1, 3));
        dueThrow("p14 write(3, 2)", x, INDEX, () -> x.write(3, 2));
    }

    private static void p15Keep() {
        WireLoom x = new WireLoom();
        due("p15 nothing through", x.keep(0), 0);
        x.lay(0, 7);
        due("p15 three", x.keep(1), 3);
        due("p15 not undoable", x.count(9), 1);
        x.lay(1, 1);
        due("p15 in place of the other one", x.keep(0), 4);
        x.lay(1, 0);
        due("p15 the new one", x.goBack(0), 4);
        due("p15 the one of slot 1", x.goBack(1), 3);
        x.undo();
        x.undo();
        x.undo();
        x.undo();
        x.undo();
        due("p15 undo leaves the slots", x.goBack(0), 4);
        dueThrow("p15 keep(2)", x, ARGUMENT, () -> x.keep(2));
        dueThrow("p15 keep(-1)", x, ARGUMENT, () -> x.keep(-1));
    }

    private static void p16GoBack() {
        WireLoom x = Looms.loaded("2162e0");
        x.guard(9);
        x.go(3);
        x.set(0, 3);
        x.keep(1);
        x.lay(8, 255);
        x.guard(9);
        x.set(0, 5);
        x.start();
        x.read(0);
        Looms.type(x, "12");
        due("p16 crossings", x.goBack(1), 8);
        due("p16 guard", x.threadOf(9, 1), 1);
        due("p16 setting", x.setting(0), 3);
        due("p16 machine", x.machine(4), 1);
        due("p16 told", x.told(0), 1);
        due("p16 changed so far", x.count(2), 8);
        due("p16 readings so far", x.count(3), 3);
        due("p16 readings of thread 0", x.threadOf(0, 7), 1);
        due("p16 wear", x.ringOf(0, 0), 3);
        due("p16 the saved states stay", x.count(9), 6);
        due("p16 the buffer stays", x.clearBuffer(), 2);
        x.cross(0, 0);
        due("p16 it stays", x.goBack(1), 8);
        x.undo();
        x.undo();
        x.undo();
        due("p16 undone", x.count(0), 16);
        due("p16 undone: machine", x.machine(7), 0);
        dueThrow("p16 goBack(2)", x, ARGUMENT, () -> x.goBack(2));
        dueThrow("p16 goBack(-1)", x, ARGUMENT, () -> x.goBack(-1));
        dueThrow("p16 goBack(0)", x, STATE, () -> x.goBack(0));
    }

    private static void p17Undo() {
        WireLoom x = new WireLoom();
        for (int t = 0; t < 8; t++) {
            x.cross(t, 0);
        }
        due("p17 at most six", x.count(9), 6);
        Looms.type(x, "ab");
        for (int left = 5; left >= 0; left--) {
            due("p17 left", x.undo(), left);
            due("p17 crossings", x.count(0), left + 2);
        }
        due("p17 changed so far", x.count(2), 2);
        due("p17 wear", x.ringOf(0, 0), 4);
        due("p17 the buffer stays", x.clearBuffer(), 2);
        dueThrow("p17 none", x, STATE, () -> x.undo());
        x.lay(0, 1);
        due("p17 saved though nothing changed", x.count(9), 1);
        due("p17 and dropped", x.undo(), 0);
    }

    private static void p18ThreadOf() {
        WireLoom x = new WireLoom();
        x.lay(0, 0x03);
        x.lay(1, 0x06);
        x.set(0, 5);
        x.guard(0);
        x.read(0);
        long[] want = {3, 1, 3, 7, 1, 4, 0, 1};
        for (int what = 0; what < 8; what++) {
            due("p18 threadOf(0, " + what + ")", x.threadOf(0, what), want[what]);
        }
        due("p18 a guarded one sneaks for none", x.threadOf(1, 3), 6);
        x.set(1, 1);
        long[] missing = {3, 1, 252, 248, 1, 4, 0, 1};
        for (int what = 0; what < 8; what++) {
            due("p18 missing: threadOf(0, " + what + ")", x.threadOf(0, what), missing[what]);
        }
        x.set(1, 0);
        x.set(0, 8);
        Looms.wearTo(x, 0, 0, 10);
        due("p18 told", x.threadOf(0, 3), 0);
        due("p18 silent", x.threadOf(0, 6), 3);
        due("p18 sneaking", x.threadOf(0, 5), 0);
        due("p18 unlike", x.threadOf(0, 4), 2);
        WireLoom machine = Looms.loaded("8080");
        machine.go(5);
        due("p18 read by the machine", machine.threadOf(0, 7), 5);
        dueThrow("p18 threadOf(16, 0)", x, INDEX, () -> x.threadOf(16, 0));
        dueThrow("p18 threadOf(-1, 8)", x, INDEX, () -> x.threadOf(-1, 8));
        dueThrow("p18 threadOf(0, 8)", x, ARGUMENT, () -> x.threadOf(0, 8));
        dueThrow("p18 threadOf(0, -1)", x, ARGUMENT, () -> x.threadOf(0, -1));
    }

    private static void p19RingOf() {
        WireLoom x = new WireLoom();
        x.lay(0, 0x01);
        x.lay(15, 0x03);
        x.set(0, 5);
        due("p19 wear", x.ringOf(0, 0), 4);
        due("p19 threads", x.ringOf(0, 1), 0x8001);
        due("p19 how many", x.ringOf(0, 2), 2);
        due("p19 by one of its own and one that sneaks", x.ringOf(1, 3), 2);
        due("p19 it answers", x.ringOf(0, 4), 0);
        Looms.wearTo(x, 15, 0, 39);
        due("p19 worn to the edge", x.ringOf(0, 4), 0);
        x.read(15);
        due("p19 worn out", x.ringOf(0, 4), 1);
        due("p19 for none", x.ringOf(0, 3), 0);
        x.cross(0, 0);
        x.cross(15, 0);
        due("p19 no such thread", x.ringOf(0, 4), 0);
        due("p19 no thread", x.ringOf(0, 2), 0);
        dueThrow("p19 ringOf(8, 0)", x, INDEX, () -> x.ringOf(8, 0));
        dueThrow("p19 ringOf(-1, 5)", x, INDEX, () -> x.ringOf(-1, 5));
        dueThrow("p19 ringOf(0, 5)", x, ARGUMENT, () -> x.ringOf(0, 5));
        dueThrow("p19 ringOf(0, -1)", x, ARGUMENT, () -> x.ringOf(0, -1));
    }

    private static void p20Strength() {
        WireLoom x = Looms.chain();
        int[] want = {8, 5, 2, 0, 0, 0, 0, 0};
        for (int r = 0; r < 8; r++) {
            due("p20 strength(0, " + r + ", 0)", x.strength(0, r, 0), want[r]);
            due("p20 strength(0, " + r + ", 1)", x.strength(0, r, 1), r);
        }
        due("p20 the thread itself is no way", x.strength(4, 0, 1), 3);
        x.guard(3);
        due("p20 no way", x.strength(0, 3, 1), NONE);
        due("p20 none, no strength", x.strength(0, 3, 0), 0);
        due("p20 up to the guard", x.strength(0, 2, 1), 2);
        x.guard(3);
        x.lay(8, 0x81);
        due("p20 a shorter way", x.strength(0, 7, 1), 1);
        due("p20 and from behind", x.strength(0, 5, 1), 3);
        due("p20 no thread in any ring", x.strength(9, 0, 1), NONE);
        x.set(0, 1);
        due("p20 told with two hops", x.threadOf(0, 3), 0b11000111);
        Looms.wearTo(x, 0, 0, 9);
        due("p20 worn by 9", x.strength(0, 0, 0), 8);
        Looms.wearTo(x, 0, 0, 10);
        due("p20 worn by 10", x.strength(0, 0, 0), 7);
        due("p20 worn and sneaking", x.strength(2, 0, 0), 4);
        Looms.wearTo(x, 0, 0, 99);
        due("p20 worn by 99", x.strength(0, 0, 0), 0);
        due("p20 at least 0", x.strength(2, 0, 0), 0);
        due("p20 hops all the same", x.strength(2, 0, 1), 1);
        dueThrow("p20 strength(16, 0, 0)", x, INDEX, () -> x.strength(16, 0, 0));
        dueThrow("p20 strength(0, 8, 2)", x, INDEX, () -> x.strength(0, 8, 2));
        dueThrow("p20 strength(-1, 0, 0)", x, INDEX, () -> x.strength(-1, 0, 0));
        dueThrow("p20 strength(0, -1, 0)", x, INDEX, () -> x.strength(0, -1, 0));
        dueThrow("p20 strength(0, 0, 2)", x, ARGUMENT, () -> x.strength(0, 0, 2));
        dueThrow("p20 strength(0, 0, -1)", x, ARGUMENT, () -> x.strength(0, 0, -1));
    }

    private static void p21Machine() {
        WireLoom x = Looms.loaded("21.60.22.61.23.62.24.63.e0.e0.80");
        x.go(10);
        long[] want = {10, 4, 1, 2, 3, 4, 1, 10, 2};
        for (int what = 0; what < 9; what++) {
            due("p21 machine(" + what + ")", x.machine(what), want[what]);
        }
        x.lay(10, 0);
        x.go(1);
        due("p21 stopped", x.machine(6), 0);
        due("p21 steps", x.machine(7), 11);
        dueThrow("p21 machine(9)", x, ARGUMENT, () -> x.machine(9));
        dueThrow("p21 machine(-1)", x, ARGUMENT, () -> x.machine(-1));
    }

    private static void p22Told() {
        WireLoom x = Looms.loaded("c1.e0.80");
        for (int t = 0; t < 3; t++) {
            x.guard(t);
        }
        x.set(0, 1);
        x.go(6);
        due("p22 latest", x.told(0), 254);
        due("p22 before", x.told(1), 255);
        due("p22 not so many", x.told(2), NONE);
        x.go(24);
        for (int ago = 0; ago < 8; ago++) {
            due("p22 told(" + ago + ")", x.told(ago), 246 + ago);
        }
        due("p22 all of them", x.machine(8), 10);
        dueThrow("p22 told(8)", x, ARGUMENT, () -> x.told(8));
        dueThrow("p22 told(-1)", x, ARGUMENT, () -> x.told(-1));
    }

    private static void p23Count() {
        WireLoom x = new WireLoom();
        due("p23 all right at first", x.count(4), 16);
        due("p23 all pairs", x.count(7), 120);
        due("p23 two mean the same", x.count(8), 0);
        x.lay(0, 0x0f);
        x.lay(1, 0x18);
        x.set(0, 5);
        x.guard(2);
        x.guard(3);
        x.read(0);
        // the threads 0 and 1 both tell 0x1f, as each sneaks through the other one; 14 tell 0
        long[] want = {6, 6, 6, 1, 14, 2, 5, 92, 0, 6};
        for (int what = 0; what < 10; what++) {
            due("p23 count(" + what + ")", x.count(what), want[what]);
        }
        WireLoom y = Looms.loaded("00030c0f.30333c3f.c0c3cccf.f0f3fcff");
        due("p23 fewest unlike", y.count(8), 2);
        WireLoom full = Looms.loaded("5556595a.6566696a.9596999a.a5a6a9aa");
        due("p23 fewest unlike of words with many bits", full.count(8), 2);
        WireLoom worn = new WireLoom();
        worn.cross(0, 0);
        due("p23 the greatest wear is that of ring 0", worn.count(6), 2);
        y.lay(1, 0x01);
        due("p23 fewest unlike then", y.count(8), 1);
        y.set(1, 1);
        due("p23 missing: crossings", y.count(0), y.count(1));
        due("p23 missing: crossings that go through", y.count(0), 63);
        due("p23 missing: fewest unlike", y.count(8), 1);
        WireLoom z = new WireLoom();
        z.lay(0, 1);
        z.set(0, 8);
        Looms.wearTo(z, 0, 0, 10);
        due("p23 pairs by what is told", z.count(7), 120);
        due("p23 wrong words", z.count(4), 15);
        dueThrow("p23 count(10)", x, ARGUMENT, () -> x.count(10));
        dueThrow("p23 count(-1)", x, ARGUMENT, () -> x.count(-1));
    }

    private static void p24Setting() {
        WireLoom x = new WireLoom();
        x.set(0, 2);
        x.set(1, 1);
        due("p24 setting 0", x.setting(0), 2);
        due("p24 setting 1", x.setting(1), 1);
        due("p24 nothing saved", x.count(9), 2);
        dueThrow("p24 setting(2)", x, INDEX, () -> x.setting(2));
        dueThrow("p24 setting(-1)", x, INDEX, () -> x.setting(-1));
    }

    private static void p25IfLoaded() {
        WireLoom x = Looms.loaded("ff0f");
        due("p25 empty", x.ifLoaded(0), NONE);
        Looms.type(x, "ff.0e");
        due("p25 at 0", x.ifLoaded(0), 1);
        due("p25 at 1", x.ifLoaded(1), 7);
        due("p25 around", x.ifLoaded(15), 13);
        due("p25 the buffer stays", x.append('.'), 6);
        due("p25 not whole", x.ifLoaded(0), NONE);
        Looms.type(x, "0e");
        x.set(1, 1);
        due("p25 missing", x.ifLoaded(0), 3);
        due("p25 as load", x.load(0), 3);
        due("p25 nothing is changed", x.count(2), 15);
        dueThrow("p25 ifLoaded(16)", x, INDEX, () -> x.ifLoaded(16));
        dueThrow("p25 ifLoaded(-1)", x, INDEX, () -> x.ifLoaded(-1));
    }

    private static void p26BestPlace() {
        WireLoom x = Looms.loaded("00.00.00.12.34.00.12.34");
        due("p26 empty", x.bestPlace(), NONE);
        Looms.type(x, "1234");
        due("p26 of several the lowest", x.bestPlace(), 3);
        Looms.type(x, "34.00");
        due("p26 other words", x.bestPlace(), 4);
        Looms.type(x, "34.00.00");
        due("p26 the whole program", x.bestPlace(), 7);
        x.lay(0, 0x56);
        x.lay(1, 0x78);
        Looms.type(x, "56");
        due("p26 at 0", x.bestPlace(), 0);
        Looms.type(x, "78");
        due("p26 at 1", x.bestPlace(), 1);
        Looms.type(x, "3400.");
        due("p26 not whole", x.bestPlace(), NONE);
        x.lay(15, 0xaa);
        x.lay(0, 0xbb);
        Looms.type(x, "aabb");
        due("p26 around", x.bestPlace(), 15);
        due("p26 nothing is changed", x.clearBuffer(), 4);
    }

    private static void p27BestGuard() {
        WireLoom x = new WireLoom();
        due("p27 of several the lowest", x.bestGuard(), 0);
        x.set(0, 5);
        x.lay(3, 0x01);
        x.lay(4, 0x03);
        x.lay(5, 0x02);
        due("p27 sneaking", x.count(4), 14);
        due("p27 the one by which they sneak", x.bestGuard(), 4);
        due("p27 none is guarded", x.count(5), 0);
        x.guard(4);
        due("p27 of the others the lowest", x.bestGuard(), 0);
        for (int t = 0; t < 16; t++) {
            if (t != 4 && t != 12) {
                x.guard(t);
            }
        }
        due("p27 the only one", x.bestGuard(), 12);
        x.guard(12);
        due("p27 all are guarded", x.bestGuard(), NONE);
    }

    private static void p28LastsFor() {
        WireLoom x = new WireLoom();
        due("p28 nothing to wear", x.lastsFor(0), NONE);
        x.lay(0, 0x03);
        due("p28 fresh", x.lastsFor(0), 28);
        x.cross(1, 1);
        due("p28 the first ring that is lost", x.lastsFor(0), 26);
        x.set(0, 1);
        due("p28 setting 1", x.lastsFor(0), 76);
        x.set(0, 8);
        due("p28 setting 8", x.lastsFor(0), 6);
        for (int left = 6; left > 1; left--) {
            x.read(0);
            due("p28 one less", x.lastsFor(0), left - 1);
        }
        due("p28 the word till then", x.read(0), 3);
        due("p28 another one", x.threadOf(0, 3), 1);
        due("p28 the other ring then", x.lastsFor(0), 2);
        x.read(0);
        x.read(0);
        due("p28 all are lost", x.lastsFor(0), NONE);
        due("p28 nothing is changed", x.count(3), 8);
        dueThrow("p28 lastsFor(16)", x, INDEX, () -> x.lastsFor(16));
        dueThrow("p28 lastsFor(-1)", x, INDEX, () -> x.lastsFor(-1));
    }

    private static void p29IfGone() {
        WireLoom x = Looms.loaded("c1.e0.80");
        x.go(2);
        due("p29 steps", x.ifGone(4, 0), 4);
        due("p29 count", x.ifGone(4, 1), 254);
        due("p29 place", x.ifGone(4, 2), 0);
        due("p29 tells", x.ifGone(4, 3), 1);
        due("p29 nothing is changed", x.machine(7), 2);
        due("p29 nothing is worn", x.count(3), 2);
        due("p29 nothing is saved", x.count(9), 2);
        // the ring 7 is lost at the 23rd step, so that the word 80 is a stop at the 25th
        due("p29 it wears what it reads", x.ifGone(99, 0), 25);
        due("p29 as go", x.go(99), 25);
        due("p29 stopped", x.ifGone(1, 0), 0);
        due("p29 told none", x.ifGone(1, 3), 0);
        dueThrow("p29 ifGone(0, 0)", x, ARGUMENT, () -> x.ifGone(0, 0));
        dueThrow("p29 ifGone(100, 0)", x, ARGUMENT, () -> x.ifGone(100, 0));
        dueThrow("p29 ifGone(1, 4)", x, ARGUMENT, () -> x.ifGone(1, 4));
        dueThrow("p29 ifGone(1, -1)", x, ARGUMENT, () -> x.ifGone(1, -1));
    }

    private static void p30RightShare() {
        WireLoom x = new WireLoom();
        check.due("p30 all", x.rightShare() == 1.0);
        x.lay(0, 1);
        x.lay(1, 3);
        x.set(0, 5);
        check.due("p30 fifteen", x.rightShare() == 0.9375);
        Looms.wearTo(x, 1, 0, 99);
        Looms.wearTo(x, 1, 1, 99);
        check.due("p30 fourteen", x.rightShare() == 0.875);
    }

    private static void p31MeanWear() {
        WireLoom x = new WireLoom();
        check.due("p31 none", x.meanWear() == 0f);
        x.cross(0, 0);
        check.due("p31 two", x.meanWear() == 0.25f);
        x.lay(1, 255);
        x.read(1);
        check.due("p31 more", x.meanWear() == 3.25f);
    }

    private static void p32Digest() {
        WireLoom x = new WireLoom();
        due("p32 new", x.digest(), Looms.digestOf(x, 0, 0, ""));
        Looms.type(x, "3f.e0~");
        due("p32 buffer", x.digest(), Looms.digestOf(x, 0, 0, "3f.e0~"));
        Looms.type(x, "3f.e0.80");
        x.load(0);
        x.keep(1);
        due("p32 slot 1", x.digest(), Looms.digestOf(x, 0, 1, ""));
        x.go(50);
        x.keep(0);
        x.lay(9, 255);
        x.set(0, 2);
        due("p32 both slots", x.digest(), Looms.digestOf(x, 1, 1, ""));
        x.set(0, 8);
        x.lay(1, 170);
        Looms.type(x, "0055");
        due("p32 a program", x.digest(), Looms.digestOf(x, 1, 1, "0055"));
        x.guard(0);
        x.guard(1);
        due("p32 guarded", x.digest(), Looms.digestOf(x, 1, 1, "0055"));
    }

    /** Shares of each size, so that no bit of them is told wrongly. */
    private static void p32BitsOfShares() {
        WireLoom x = new WireLoom();
        for (int t = 0; t < 16; t++) {
            x.lay(t, 255);
        }
        x.set(0, 8);
        for (int i = 0; i < 105; i++) {
            x.read(i % 16);
            if (i == 20) {
                x.set(0, 1);
            }
            if (i == 30) {
                x.set(0, 8);
            }
            if (i % 8 == 3) {
                x.cross(i % 16, i % 5);
            }
            due("p32 shares", x.digest(), Looms.digestOf(x, 0, 0, ""));
        }
        check.due("p32 none is right", x.rightShare() == 0.0);
        for (int t = 0; t < 16; t++) {
            x.lay(t, 0);
            due("p32 some are right", x.digest(), Looms.digestOf(x, 0, 0, ""));
            check.due("p32 how many are right", x.rightShare() == (t + 1) / 16.0);
        }
    }

    /** A whole run of 512 calls with the worst arguments throws nothing but what is named. */
    private static void wrongArguments() {
        int[] worst = {Integer.MIN_VALUE, Integer.MAX_VALUE, -17, 16, 8, 1 << 20, -1};
        for (int a : worst) {
            WireLoom x = new WireLoom();
            dueThrow("cross", x, INDEX, () -> x.cross(a, a));
            dueThrow("lay", x, INDEX, () -> x.lay(a < 16 && a > 0 ? 16 : a, a));
            dueThrow("change", x, INDEX, () -> x.change(a));
            dueThrow("set", x, INDEX, () -> x.set(a, a));
            dueThrow("set 0", x, ARGUMENT, () -> x.set(0, a == 8 ? 9 : a));
            dueThrow("keep", x, ARGUMENT, () -> x.keep(a));
            dueThrow("goBack", x, ARGUMENT, () -> x.goBack(a));
            dueThrow("threadOf", x, ARGUMENT, () -> x.threadOf(0, a));
            dueThrow("ringOf", x, INDEX, () -> x.ringOf(a, a));
            dueThrow("strength", x, INDEX, () -> x.strength(0, a, a));
            dueThrow("told", x, ARGUMENT, () -> x.told(a));
            dueThrow("setting", x, INDEX, () -> x.setting(a));
            dueThrow("ifGone", x, ARGUMENT, () -> x.ifGone(1, a));
        }
    }

    public static void main(String[] args) {
        p1NewObject();
        p2Cross();
        p3Lay();
        p4Guard();
        p5Change();
        p6Set();
        p7Read();
        p8Start();
        p9Go();
        p9Orders();
        p10Append();
        p11ClearBuffer();
        p12FirstError();
        p13Load();
        p14Write();
        p15Keep();
        p16GoBack();
        p17Undo();
        p18ThreadOf();
        p19RingOf();
        p20Strength();
        p21Machine();
        p22Told();
        p23Count();
        p24Setting();
        p25IfLoaded();
        p26BestPlace();
        p27BestGuard();
        p28LastsFor();
        p29IfGone();
        p30RightShare();
        p31MeanWear();
        p32Digest();
        p32BitsOfShares();
        wrongArguments();
        check.end();
    }
}
