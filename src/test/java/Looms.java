/** Looms that several tests begin with, and runs of calls that they share. */
final class Looms {
    private Looms() {
    }

    /** Puts a text into the buffer, in place of what was there. */
    static void type(WireLoom x, String text) {
        x.clearBuffer();
        for (int i = 0; i < text.length(); i++) {
            x.append(text.charAt(i));
        }
    }

    static WireLoom typed(String text) {
        WireLoom x = new WireLoom();
        type(x, text);
        return x;
    }

    static WireLoom loaded(String program) {
        WireLoom x = typed(program);
        x.load(0);
        return x;
    }

    /** A chain: thread 0 in ring 0, thread t (1 to 7) in the rings t - 1 and t. */
    static WireLoom chain() {
        WireLoom x = new WireLoom();
        x.lay(0, 1);
        for (int t = 1; t <= 7; t++) {
            x.lay(t, 3 << (t - 1));
        }
        return x;
    }

    /** Reads a thread until a ring through which it goes is worn so far. */
    static void wearTo(WireLoom x, int thread, int ring, int wear) {
        for (int i = 0; i < 99 && x.ringOf(ring, 0) < wear; i++) {
            x.read(thread);
        }
    }

    /** A loom with nothing as it was at first, and with room for two more saved states. */
    static WireLoom lively() {
        WireLoom x = loaded("25.60.e0.41.c3.61.e0.22.63.80.01.81.42.18.f0.07");
        x.guard(2);
        x.keep(0);
        x.go(9);
        x.keep(1);
        x.set(0, 5);
        type(x, "3f.e0");
        return x;
    }

    /** A loom with as many saved states as there may be, all unlike, and an unfinished text. */
    static WireLoom busy() {
        WireLoom x = lively();
        x.cross(3, 4);
        x.read(1);
        x.guard(11);
        x.set(1, 1);
        x.change(6);
        x.append('.');
        return x;
    }

    /** A loom with a full buffer, which is no program. */
    static WireLoom full() {
        return typed("0123456789abcdef".repeat(3) + "0123456789ab");
    }

    private static long fold(long hash, long... values) {
        long folded = hash;
        for (long value : values) {
            folded = 31 * folded + value;
        }
        return folded;
    }

    /** The digest by the face alone, but for what the caller knows: the slots and the buffer. */
    static long digestOf(WireLoom x, int slot0, int slot1, String buffer) {
        long hash = 3371;
        for (int what = 0; what < 10; what++) {
            hash = fold(hash, x.count(what));
        }
        hash = fold(hash, x.setting(0), x.setting(1));
        for (int t = 0; t < 16; t++) {
            for (int what = 0; what < 8; what++) {
                hash = fold(hash, x.threadOf(t, what));
            }
            hash = fold(hash, x.lastsFor(t));
        }
        for (int i = 0; i < 40; i++) {
            hash = fold(hash, x.ringOf(i / 5, i % 5));
        }
        for (int i = 0; i < 16; i++) {
            hash = fold(hash, x.strength(i / 8, i % 8, 0));
        }
        for (int what = 0; what < 9; what++) {
            hash = fold(hash, x.machine(what));
        }
        for (int ago = 0; ago < 8; ago++) {
            hash = fold(hash, x.told(ago));
        }
        hash = fold(hash, x.ifGone(20, 0), x.ifGone(20, 1), x.ifGone(20, 2), x.ifGone(20, 3));
        hash = fold(hash, x.ifLoaded(0), x.bestPlace(), x.bestGuard());
        hash = fold(hash, Double.doubleToLongBits(x.rightShare()), Float.floatToIntBits(x.meanWear()));
        hash = fold(hash, slot0, slot1, buffer.length());
        for (int i = 0; i < buffer.length(); i++) {
            hash = fold(hash, buffer.charAt(i));
        }
        return hash;
    }
}
