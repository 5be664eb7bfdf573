/** The edges of the machine and of the settings: a test of its own for each sentence that names one. */
final class MachineEdgeTest {
    private static final int NONE = WireLoom.NONE;
    private static final Sentences s = new Sentences("MachineEdgeTest");

    private static void due(long got, long want) {
        s.due(got, want);
    }

    /** A loom whose machine has done the program of some words. */
    private static WireLoom done(String program, int steps) {
        WireLoom x = Looms.loaded(program);
        due(x.go(steps), steps);
        return x;
    }

    private static void atFirst() {
        s.test("a place, at first 0, a count, at first 0, four cells, each at first 0", () -> {
            WireLoom x = new WireLoom();
            for (int what = 0; what <= 5; what++) {
                due(x.machine(what), 0);
            }
        });
        s.test("and a row of what it told: at first nothing", () -> {
            WireLoom x = new WireLoom();
            due(x.machine(8), 0);
            for (int ago = 0; ago <= 7; ago++) {
                due(x.told(ago), NONE);
            }
        });
        s.test("and is running or not, at first running", () -> {
            WireLoom x = new WireLoom();
            due(x.machine(6), 1);
            due(x.machine(7), 0);
            due(x.go(1), 1);
            due(x.machine(6), 0);
        });
    }

    private static void places() {
        s.test("the place becomes the next one", () -> {
            WireLoom x = new WireLoom();
            x.set(1, 1);
            for (int place = 1; place <= 15; place++) {
                x.go(1);
                due(x.machine(0), place);
            }
        });
        s.test("(0 behind 15)", () -> {
            WireLoom x = new WireLoom();
            x.set(1, 1);
            x.go(15);
            due(x.machine(0), 15);
            x.go(1);
            due(x.machine(0), 0);
            due(x.threadOf(15, 7), 1);
            due(x.threadOf(0, 7), 1);
            x.go(1);
            due(x.threadOf(0, 7), 2);
        });
        s.test("(0 behind 15): also when it stops there", () -> {
            WireLoom x = done("8f", 2);
            due(x.machine(6), 0);
            due(x.machine(0), 0);
            due(x.threadOf(15, 7), 1);
        });
        s.test("it reads the thread of its place, the place becomes the next one, and the word is done", () -> {
            WireLoom x = Looms.loaded("84.21.22.23.24");
            x.go(1);
            due(x.machine(0), 4);
            due(x.threadOf(0, 7), 1);
            x.go(1);
            due(x.machine(1), 4);
            due(x.machine(0), 5);
            due(x.threadOf(1, 7), 0);
        });
        s.test("the word that is told is done, not the one that is meant", () -> {
            WireLoom x = Looms.loaded("35");
            Looms.wearTo(x, 0, 0, 30);
            due(x.threadOf(0, 2), 0x35);
            due(x.threadOf(0, 3), 0);
            x.go(1);
            due(x.machine(6), 0);
            due(x.machine(1), 0);
        });
        s.test("the word that is told as the rings were ahead of the step", () -> {
            WireLoom x = Looms.loaded("35");
            Looms.wearTo(x, 0, 0, 29);
            x.go(1);
            due(x.machine(1), 0x15);
            due(x.threadOf(0, 3), 0);
        });
    }

    private static void orders() {
        s.test("with o as the word divided by 32, and n as the rest: 31 is an order 0", () -> {
            WireLoom x = done("1f", 1);
            due(x.machine(6), 0);
            due(x.machine(1), 0);
        });
        s.test("with o as the word divided by 32, and n as the rest: 32 is an order 1 with 0", () -> {
            WireLoom x = done("25.20", 2);
            due(x.machine(6), 1);
            due(x.machine(1), 0);
        });
        s.test("with o as the word divided by 32, and n as the rest: 255 is an order 7", () -> {
            WireLoom x = done("2a.ff", 2);
            due(x.machine(1), 10);
            due(x.machine(8), 1);
            due(x.told(0), 10);
        });
        s.test("0: it stops", () -> {
            WireLoom x = Looms.loaded("2a.00.2b");
            due(x.go(99), 2);
            due(x.machine(6), 0);
            due(x.machine(0), 2);
            due(x.machine(1), 10);
            due(x.machine(7), 2);
            due(x.count(3), 2);
        });
        s.test("1: the count becomes n: the greatest and the least", () -> {
            due(done("3f", 1).machine(1), 31);
            due(done("3f.20", 2).machine(1), 0);
        });
        s.test("2: the cell n modulo 4 is added to the count", () -> {
            String cells = "21.60.22.61.24.62.28.63.30.";
            due(done(cells + "40", 10).machine(1), 17);
            due(done(cells + "41", 10).machine(1), 18);
            due(done(cells + "42", 10).machine(1), 20);
            due(done(cells + "43", 10).machine(1), 24);
            due(done(cells + "44", 10).machine(1), 17);
            due(done(cells + "47", 10).machine(1), 24);
            due(done(cells + "5f", 10).machine(1), 24);
            due(done(cells + "5c", 10).machine(1), 17);
        });
        s.test("3: the count is put into the cell n modulo 4", () -> {
            for (int n = 0; n < 32; n++) {
                WireLoom x = done("35." + Integer.toHexString(96 + n), 2);
                for (int cell = 0; cell < 4; cell++) {
                    due(x.machine(2 + cell), cell == n % 4 ? 21 : 0);
                }
                due(x.machine(1), 21);
            }
        });
        s.test("4: the place becomes n modulo 16", () -> {
            for (int n = 0; n < 32; n++) {
                due(done("2a." + Integer.toHexString(128 + n), 2).machine(0), n % 16);
                due(done(Integer.toHexString(128 + n), 1).machine(0), n % 16);
            }
        });
        s.test("5: likewise, if the count is 0", () -> {
            for (int n = 0; n < 32; n++) {
                due(done(Integer.toHexString(160 + n), 1).machine(0), n % 16);
            }
        });
        s.test("5: not if the count is another one", () -> {
            due(done("21.a9", 2).machine(0), 2);
            due(done("3f.a9", 2).machine(0), 2);
            due(done("c1.b9", 2).machine(0), 2);
        });
        s.test("6: n is taken off the count", () -> {
            due(done("3f.c0", 2).machine(1), 31);
            due(done("3f.c1", 2).machine(1), 30);
            due(done("3f.df", 2).machine(1), 0);
        });
        s.test("7: it tells the count, whatever n is", () -> {
            WireLoom x = done("2a.e0.e1.f0.ff", 5);
            due(x.machine(8), 4);
            for (int ago = 0; ago < 4; ago++) {
                due(x.told(ago), 10);
            }
            due(x.told(4), NONE);
            due(x.machine(1), 10);
            due(x.machine(0), 5);
        });
        s.test("(of what it told the latest 8 are known)", () -> {
            WireLoom x = Looms.loaded("c1.e0.80");
            for (int thread = 0; thread < 3; thread++) {
                x.guard(thread);
            }
            x.set(0, 1);
            x.go(23);
            due(x.machine(8), 8);
            for (int ago = 0; ago < 8; ago++) {
                due(x.told(ago), 248 + ago);
            }
            x.go(3);
            due(x.machine(8), 9);
            for (int ago = 0; ago < 8; ago++) {
                due(x.told(ago), 247 + ago);
            }
        });
        s.test("Counts are modulo 256: below 0", () -> {
            due(done("c1", 1).machine(1), 255);
            due(done("df", 1).machine(1), 225);
            due(done("21.c2", 2).machine(1), 255);
        });
        s.test("Counts are modulo 256: just 256 is 0", () -> {
            WireLoom x = done("21.60.20.c1.40", 5);
            due(x.machine(1), 0);
            x.lay(5, 0xaa);
            x.go(1);
            due(x.machine(0), 10);
        });
        s.test("Counts are modulo 256: 255 is no less", () -> {
            due(done("21.60.20.c2.40", 5).machine(1), 255);
        });
        s.test("Counts are modulo 256: far beyond 255", () -> {
            WireLoom x = done("c1.60.40", 3);
            due(x.machine(2), 255);
            due(x.machine(1), 254);
        });
        s.test("cells, each 0 to 255", () -> {
            WireLoom x = done("c1.63.43.61", 4);
            due(x.machine(5), 255);
            due(x.machine(3), 254);
        });
    }

    /** A loom whose machine has the cells 1, 4, 11 and 29 and the count that a last word makes, and is at the place 10. */
    private static WireLoom prepared(String lastWord) {
        WireLoom x = Looms.typed("21.60.24.61.2b.62.3d.63.20." + lastWord);
        for (int thread = 0; thread <= 15; thread++) {
            x.guard(thread);
        }
        x.set(0, 1);
        x.load(0);
        due(x.go(10), 10);
        return x;
    }

    private static void doesJustThis(WireLoom x, int word) {
        int o = word / 32;
        int n = word % 32;
        int count = x.machine(1);
        int[] cells = {1, 4, 11, 29};
        x.lay(10, word);
        due(x.go(1), 1);
        due(x.machine(0), o == 4 || o == 5 && count == 0 ? n % 16 : 11);
        int[] counts = {count, n, count + cells[n % 4], count, count, count, count - n, count};
        due(x.machine(1), Math.floorMod(counts[o], 256));
        if (o == 3) {
            cells[n % 4] = count;
        }
        for (int cell = 0; cell <= 3; cell++) {
            due(x.machine(2 + cell), cells[cell]);
        }
        due(x.machine(6), o == 0 ? 0 : 1);
        due(x.machine(7), 11);
        due(x.machine(8), o == 7 ? 1 : 0);
        due(x.told(0), o == 7 ? count : NONE);
        due(x.threadOf(10, 7), 1);
    }

    private static void allWords() {
        s.test("the word that is told is done: each of 0 to 255, with a count of 0", () -> {
            for (int word = 0; word <= 255; word++) {
                doesJustThis(prepared("20"), word);
            }
        });
        s.test("the word that is told is done: each of 0 to 255, with a count of 21", () -> {
            for (int word = 0; word <= 255; word++) {
                doesJustThis(prepared("35"), word);
            }
        });
        s.test("the word that is told is done: each of 0 to 255, with a count of 225", () -> {
            for (int word = 0; word <= 255; word++) {
                doesJustThis(prepared("df"), word);
            }
        });
        s.test("the word that is told is done: each of 0 to 255, with a count of 255", () -> {
            for (int word = 0; word <= 255; word++) {
                doesJustThis(prepared("c1"), word);
            }
        });
    }

    private static void settings() {
        s.test("0: the strength by which a ring answers, 1 to 8: each of these", () -> {
            WireLoom x = new WireLoom();
            int previous = 6;
            for (int value = 1; value <= 8; value++) {
                due(x.set(0, value), previous);
                due(x.setting(0), value);
                previous = value;
            }
        });
        s.test("0: the strength by which a ring answers, at first 6", () -> {
            WireLoom x = new WireLoom();
            due(x.setting(0), 6);
            x.lay(0, 1);
            Looms.wearTo(x, 0, 0, 29);
            due(x.threadOf(0, 3), 1);
            x.read(0);
            due(x.threadOf(0, 3), 0);
        });
        s.test("1: words by threads that go through (0) or that are missing (1), at first 0", () -> {
            WireLoom x = new WireLoom();
            due(x.setting(1), 0);
            due(x.threadOf(0, 2), 0);
            due(x.set(1, 1), 0);
            due(x.threadOf(0, 2), 255);
            due(x.set(1, 0), 1);
            due(x.threadOf(0, 2), 0);
        });
        s.test("1: missing: the machine does the words that are told by missing threads", () -> {
            WireLoom x = new WireLoom();
            x.set(1, 1);
            x.lay(0, 0x2a);
            x.lay(1, 0x00);
            due(x.go(99), 2);
            due(x.machine(1), 10);
            due(x.machine(6), 0);
        });
    }

    public static void main(String[] args) {
        atFirst();
        places();
        orders();
        allWords();
        settings();
        s.end();
    }
}
