/** The edges in the document's "Terms": a test of its own for each sentence that names one. */
final class TermsEdgeTest {
    private static final int NONE = WireLoom.NONE;
    private static final Sentences s = new Sentences("TermsEdgeTest");

    private static void due(long got, long want) {
        s.due(got, want);
    }

    private static void whole() {
        s.test("An object is used for at most 512 calls: all of them answer", () -> {
            WireLoom x = new WireLoom();
            x.set(1, 1);
            for (int call = 2; call <= 511; call++) {
                due(x.go(99), 99);
            }
            due(x.count(3), 510 * 99);
        });
        s.test("An object is used for at most 512 calls: as many readings of one thread", () -> {
            WireLoom x = new WireLoom();
            for (int call = 1; call <= 511; call++) {
                due(x.read(15), 0);
            }
            due(x.threadOf(15, 7), 511);
        });
        s.test("An object is used for at most 512 calls: as many changed crossings", () -> {
            WireLoom x = new WireLoom();
            for (int call = 1; call <= 511; call++) {
                due(x.lay(7, call % 2 == 1 ? 255 : 0), 8);
            }
            due(x.count(2), 511 * 8);
        });
        s.test("NONE = -1", () -> due(WireLoom.NONE, -1));
    }

    private static void ringsAndThreads() {
        s.test("There are 8 rings, numbered from 0", () -> {
            for (int ring = 0; ring < 8; ring++) {
                WireLoom x = new WireLoom();
                due(x.cross(5, ring), 1);
                due(x.threadOf(5, 0), 1 << ring);
                for (int other = 0; other < 8; other++) {
                    due(x.ringOf(other, 1), other == ring ? 1 << 5 : 0);
                }
            }
        });
        s.test("and 16 threads, numbered from 0", () -> {
            for (int thread = 0; thread < 16; thread++) {
                WireLoom x = new WireLoom();
                due(x.cross(thread, 3), 1);
                due(x.ringOf(3, 1), 1 << thread);
                for (int other = 0; other < 16; other++) {
                    due(x.threadOf(other, 0), other == thread ? 8 : 0);
                }
            }
        });
        s.test("Each thread goes through each ring, or past it; at first past all", () -> {
            WireLoom x = new WireLoom();
            for (int thread = 0; thread < 16; thread++) {
                due(x.threadOf(thread, 0), 0);
            }
            for (int thread = 0; thread < 16; thread++) {
                due(x.lay(thread, 255), 8);
            }
            due(x.count(0), 128);
            due(x.count(1), 128);
        });
        s.test("A thread is guarded or not; at first none is", () -> {
            WireLoom x = new WireLoom();
            for (int thread = 0; thread < 16; thread++) {
                due(x.threadOf(thread, 1), 0);
                due(x.count(5), thread);
                due(x.guard(thread), 1);
                due(x.threadOf(thread, 1), 1);
            }
            due(x.count(5), 16);
        });
        s.test("A ring has a wear, at first 0", () -> {
            WireLoom x = new WireLoom();
            for (int ring = 0; ring < 8; ring++) {
                due(x.ringOf(ring, 0), 0);
            }
        });
        s.test("To change a crossing (a thread is laid through a ring) wears the ring by 2", () -> {
            WireLoom x = new WireLoom();
            x.cross(0, 4);
            for (int ring = 0; ring < 8; ring++) {
                due(x.ringOf(ring, 0), ring == 4 ? 2 : 0);
            }
        });
        s.test("or the other way round: likewise", () -> {
            WireLoom x = new WireLoom();
            x.cross(0, 4);
            x.cross(0, 4);
            for (int ring = 0; ring < 8; ring++) {
                due(x.ringOf(ring, 0), ring == 4 ? 4 : 0);
            }
        });
    }

    private static void greatestWear() {
        s.test("A wear is at most 99: by cross", () -> {
            WireLoom x = new WireLoom();
            for (int i = 0; i < 49; i++) {
                x.cross(0, 7);
            }
            due(x.ringOf(7, 0), 98);
            x.cross(0, 7);
            due(x.ringOf(7, 0), 99);
            due(x.cross(0, 7), 1);
            due(x.ringOf(7, 0), 99);
            due(x.ringOf(6, 0), 0);
            due(x.count(2), 51);
        });
        s.test("A wear is at most 99: by lay", () -> {
            WireLoom x = new WireLoom();
            for (int i = 0; i < 49; i++) {
                x.lay(0, i % 2 == 0 ? 0x81 : 0);
            }
            due(x.ringOf(0, 0), 98);
            due(x.lay(0, 0), 2);
            due(x.ringOf(0, 0), 99);
            due(x.ringOf(7, 0), 99);
            due(x.lay(0, 0x80), 1);
            due(x.ringOf(7, 0), 99);
            due(x.ringOf(3, 0), 0);
        });
        s.test("A wear is at most 99: by load", () -> {
            WireLoom x = new WireLoom();
            for (int i = 1; i <= 3; i++) {
                Looms.type(x, (i % 2 == 1 ? "01" : "00").repeat(16));
                due(x.load(0), 16);
                due(x.ringOf(0, 0), 32 * i);
            }
            Looms.type(x, "00".repeat(16));
            due(x.load(0), 16);
            due(x.ringOf(0, 0), 99);
            due(x.count(2), 64);
        });
        s.test("A wear is at most 99: by read", () -> {
            WireLoom x = new WireLoom();
            x.lay(9, 0x41);
            for (int wear = 3; wear <= 99; wear++) {
                x.read(9);
                due(x.ringOf(0, 0), wear);
            }
            x.read(9);
            due(x.ringOf(0, 0), 99);
            due(x.ringOf(6, 0), 99);
            due(x.threadOf(9, 7), 98);
        });
        s.test("A wear is at most 99: by go", () -> {
            WireLoom x = new WireLoom();
            for (int thread = 0; thread < 16; thread++) {
                x.cross(thread, 0);
            }
            x.set(1, 1);
            due(x.go(66), 66);
            due(x.ringOf(0, 0), 98);
            due(x.go(1), 1);
            due(x.ringOf(0, 0), 99);
            due(x.go(99), 99);
            due(x.ringOf(0, 0), 99);
        });
    }

    private static void strength() {
        s.test("it drives the rings through which it goes (whether it is guarded or not)", () -> {
            WireLoom x = new WireLoom();
            x.lay(4, 0x90);
            due(x.guard(4), 1);
            due(x.strength(4, 4, 0), 8);
            due(x.strength(4, 7, 0), 8);
            due(x.threadOf(4, 3), 0x90);
            due(x.guard(4), 0);
            due(x.strength(4, 4, 0), 8);
            due(x.threadOf(4, 3), 0x90);
        });
        s.test("a guarded thread that is read sneaks by others all the same", () -> {
            WireLoom x = Looms.chain();
            x.guard(0);
            due(x.strength(0, 1, 0), 5);
            due(x.strength(0, 2, 1), 2);
            x.set(0, 5);
            due(x.threadOf(0, 3), 3);
            due(x.threadOf(0, 5), 2);
            due(x.read(0), 3);
        });
        s.test("The strength in such a ring is 8", () -> {
            WireLoom x = new WireLoom();
            x.lay(15, 255);
            for (int ring = 0; ring < 8; ring++) {
                due(x.strength(15, ring, 0), 8);
                due(x.strength(15, ring, 1), 0);
            }
        });
        s.test("In another ring it is 8 less 3 times the hops", () -> {
            WireLoom x = Looms.chain();
            due(x.strength(0, 1, 0), 5);
            due(x.strength(0, 2, 0), 2);
            due(x.strength(7, 5, 0), 5);
            due(x.strength(7, 4, 0), 2);
        });
        s.test("8 less 3 times the hops, at least 0", () -> {
            WireLoom x = Looms.chain();
            for (int ring = 3; ring < 8; ring++) {
                due(x.strength(0, ring, 0), 0);
                due(x.strength(0, ring, 1), ring);
            }
        });
        s.test("the hops are the fewest threads", () -> {
            WireLoom x = Looms.chain();
            x.lay(12, 0x41);
            int[] hops = {0, 1, 2, 3, 3, 2, 1, 2};
            for (int ring = 0; ring < 8; ring++) {
                due(x.strength(0, ring, 1), hops[ring]);
            }
        });
        s.test("from a ring through which the thread that is read goes: from the nearest of them", () -> {
            WireLoom x = Looms.chain();
            x.lay(13, 0x41);
            int[] hops = {0, 1, 2, 3, 2, 1, 0, 1};
            for (int ring = 0; ring < 8; ring++) {
                due(x.strength(13, ring, 1), hops[ring]);
            }
        });
        s.test("threads, not guarded: a guarded one is no way", () -> {
            WireLoom x = Looms.chain();
            x.guard(2);
            due(x.strength(0, 1, 1), 1);
            due(x.strength(0, 2, 1), NONE);
            due(x.strength(0, 2, 0), 0);
            due(x.strength(0, 3, 1), NONE);
            x.lay(15, 0x06);
            due(x.strength(0, 2, 1), 2);
            x.guard(15);
            due(x.strength(0, 2, 1), NONE);
        });
        s.test("other ones than the one that is read: alone it comes nowhere else", () -> {
            WireLoom x = new WireLoom();
            x.lay(3, 0x11);
            for (int ring = 0; ring < 8; ring++) {
                due(x.strength(3, ring, 1), ring % 4 == 0 ? 0 : NONE);
            }
        });
        s.test("each of them goes through the ring that was come to and through the next one", () -> {
            WireLoom x = new WireLoom();
            x.lay(0, 0x01);
            x.lay(1, 0x06);
            due(x.strength(0, 1, 1), NONE);
            due(x.strength(0, 2, 1), NONE);
            x.lay(2, 0x03);
            due(x.strength(0, 1, 1), 1);
            due(x.strength(0, 2, 1), 2);
        });
        s.test("a thread through many rings is one hop to each of them", () -> {
            WireLoom x = new WireLoom();
            x.lay(0, 0x80);
            x.lay(1, 0xff);
            for (int ring = 0; ring < 7; ring++) {
                due(x.strength(0, ring, 1), 1);
                due(x.strength(0, ring, 0), 5);
            }
        });
        s.test("If there is no such way, the strength is 0", () -> {
            WireLoom x = new WireLoom();
            x.lay(1, 0xff);
            x.lay(2, 0xff);
            for (int ring = 0; ring < 8; ring++) {
                due(x.strength(0, ring, 0), 0);
                due(x.strength(0, ring, 1), NONE);
            }
        });
    }

    private static void wornStrength() {
        s.test("From each strength a tenth of the wear of the ring is taken", () -> {
            WireLoom x = new WireLoom();
            x.lay(6, 0x20);
            for (int wear = 2; wear <= 80; wear++) {
                due(x.ringOf(5, 0), wear);
                due(x.strength(6, 5, 0), 8 - wear / 10);
                x.read(6);
            }
        });
        s.test("at least 0 is left, of the strength where the thread goes through", () -> {
            WireLoom x = new WireLoom();
            x.lay(6, 0x20);
            Looms.wearTo(x, 6, 5, 89);
            due(x.strength(6, 5, 0), 0);
            Looms.wearTo(x, 6, 5, 90);
            due(x.strength(6, 5, 0), 0);
            Looms.wearTo(x, 6, 5, 99);
            due(x.strength(6, 5, 0), 0);
            due(x.strength(6, 5, 1), 0);
        });
        s.test("at least 0 is left, of the strength by one hop", () -> {
            WireLoom x = Looms.chain();
            int[] want = {5, 4, 3, 2, 1, 0, 0, 0, 0, 0};
            for (int tenth = 0; tenth < 10; tenth++) {
                Looms.wearTo(x, 1, 1, 10 * tenth);
                due(x.strength(0, 1, 0), want[tenth]);
                due(x.strength(0, 1, 1), 1);
            }
        });
        s.test("at least 0 is left, of the strength by two hops and where none was", () -> {
            WireLoom x = Looms.chain();
            int[] want = {2, 1, 0, 0};
            for (int tenth = 0; tenth < 4; tenth++) {
                Looms.wearTo(x, 2, 2, 10 * tenth);
                due(x.strength(0, 2, 0), want[tenth]);
                due(x.strength(15, 2, 0), 0);
            }
        });
        s.test("of the wear of the ring: not of the rings by which one comes to it", () -> {
            WireLoom x = Looms.chain();
            Looms.wearTo(x, 0, 0, 99);
            due(x.strength(0, 0, 0), 0);
            due(x.strength(0, 1, 0), 5);
            due(x.strength(0, 2, 0), 2);
        });
    }

    private static void answers() {
        s.test("A ring answers if its strength is at least setting 0", () -> {
            WireLoom x = Looms.chain();
            int[] want = {0, 7, 7, 3, 3, 3, 1, 1, 1};
            for (int least = 1; least <= 8; least++) {
                x.set(0, least);
                due(x.threadOf(0, 3), want[least]);
            }
        });
        s.test("a ring with no strength never answers", () -> {
            WireLoom x = Looms.chain();
            x.set(0, 1);
            due(x.threadOf(0, 3), 7);
            due(x.threadOf(8, 3), 0);
            Looms.wearTo(x, 0, 0, 79);
            due(x.threadOf(0, 3), 7);
            x.read(0);
            due(x.threadOf(0, 3), 6);
        });
        s.test("with setting 1 as 0 the bit r is 1 if the ring r answers, with setting 1 as 1 if it does not", () -> {
            WireLoom x = Looms.chain();
            x.set(0, 5);
            due(x.threadOf(7, 3), 0b11100000);
            x.set(1, 1);
            due(x.threadOf(7, 3), 0b00011111);
            due(x.threadOf(15, 3), 255);
            x.set(1, 0);
            due(x.threadOf(15, 3), 0);
        });
        s.test("The word that is meant has the bit r as 1 if the thread goes through the ring r, or past it", () -> {
            WireLoom x = Looms.chain();
            x.set(0, 5);
            due(x.threadOf(7, 2), 0b11000000);
            due(x.threadOf(15, 2), 0);
            x.set(1, 1);
            due(x.threadOf(7, 2), 0b00111111);
            due(x.threadOf(15, 2), 255);
        });
        s.test("A word is a number, 0 to 255: the bit r counts 2 to the power of r", () -> {
            int power = 1;
            for (int ring = 0; ring < 8; ring++) {
                WireLoom x = new WireLoom();
                x.cross(1, ring);
                due(x.threadOf(1, 2), power);
                due(x.threadOf(1, 3), power);
                x.set(1, 1);
                due(x.threadOf(1, 2), 255 - power);
                due(x.threadOf(1, 3), 255 - power);
                power = 2 * power;
            }
        });
        s.test("To read a thread wears each ring through which it goes by 1, also one that does not answer", () -> {
            WireLoom x = new WireLoom();
            x.lay(0, 0x82);
            Looms.wearTo(x, 0, 1, 50);
            due(x.threadOf(0, 3), 0);
            due(x.read(0), 0);
            due(x.ringOf(1, 0), 51);
            due(x.ringOf(7, 0), 51);
        });
        s.test("To read a thread wears no ring past which it goes, also one that answers", () -> {
            WireLoom x = Looms.chain();
            x.set(0, 1);
            due(x.read(0), 7);
            due(x.ringOf(0, 0), 5);
            due(x.ringOf(1, 0), 4);
            due(x.ringOf(2, 0), 4);
        });
    }

    public static void main(String[] args) {
        whole();
        ringsAndThreads();
        greatestWear();
        strength();
        wornStrength();
        answers();
        s.end();
    }
}
