/** The edges of input texts (promises 10 to 14, 25 and 26): a test of its own for each sentence that names one. */
final class TextEdgeTest {
    private static final int NONE = WireLoom.NONE;
    private static final String SIXTEEN = "000102030405060708090a0b0c0d0e0f";
    private static final String DOTTED = "00.01.02.03.04.05.06.07.08.09.0a.0b.0c.0d.0e.0f";
    /** Texts that are no program, though some begin one. */
    private static final String[] NO_PROGRAMS = {"", "0", ".", "00.", "000", "00.0", "00..00", ".00", "0.0", "0g", "A0",
        "0:", "/0", "`0", "00,00", "00-", SIXTEEN + ".", SIXTEEN + "00", SIXTEEN + "0", DOTTED + ".", DOTTED + ".00",
        DOTTED + "00"};
    private static final Sentences s = new Sentences("TextEdgeTest");

    private static void due(long got, long want) {
        s.due(got, want);
    }

    private static void dueError(String text, int want) {
        WireLoom x = Looms.typed(text);
        due(x.firstError(), want);
        due(x.firstError(), want);
        due(x.clearBuffer(), text.length());
    }

    private static WireLoom fullBuffer() {
        return Looms.full();
    }

    private static void append() {
        s.test("The buffer has at most 60 characters: the sixtieth is taken", () -> {
            WireLoom x = new WireLoom();
            for (int length = 1; length <= 60; length++) {
                due(x.append(33 + length), length);
            }
            due(x.clearBuffer(), 60);
        });
        s.test("append throws IllegalStateException if the buffer has 60 characters", () -> {
            s.refusedOn(TextEdgeTest::fullBuffer, Sentences.STATE, x -> x.append('0'));
            s.refusedOn(TextEdgeTest::fullBuffer, Sentences.STATE, x -> x.append(33));
            s.refusedOn(TextEdgeTest::fullBuffer, Sentences.STATE, x -> x.append(126));
            WireLoom x = fullBuffer();
            x.clearBuffer();
            due(x.append('0'), 1);
        });
        s.test("append: code: the character code, 33 to 126", () -> s.range(Sentences.ARGUMENT, 33, 126, WireLoom::append));
        s.test("append: code: 33 to 126: each of them is put as it is", () -> {
            for (int code = 33; code <= 126; code++) {
                WireLoom x = new WireLoom();
                due(x.append(code), 1);
                due(x.digest(), Looms.digestOf(x, 0, 0, String.valueOf((char) code)));
            }
        });
        s.test("append: of both exceptions the one that is named first", () -> {
            s.refusedOn(TextEdgeTest::fullBuffer, Sentences.ARGUMENT, x -> x.append(32));
            s.refusedOn(TextEdgeTest::fullBuffer, Sentences.ARGUMENT, x -> x.append(127));
        });
        s.test("append returns the new length of the buffer: of an empty one 1", () -> {
            WireLoom x = new WireLoom();
            due(x.append('a'), 1);
            due(x.append('a'), 2);
            x.clearBuffer();
            due(x.append('a'), 1);
        });
        s.test("append is not undoable", () -> s.savesNothing(Looms::lively, x -> x.append('a')));
    }

    private static void clearBuffer() {
        s.test("clearBuffer returns the length that it had: of an empty one 0", () -> {
            WireLoom x = new WireLoom();
            due(x.clearBuffer(), 0);
            due(x.clearBuffer(), 0);
        });
        s.test("clearBuffer returns the length that it had: of a full one 60", () -> {
            WireLoom x = fullBuffer();
            due(x.clearBuffer(), 60);
            due(x.clearBuffer(), 0);
            due(x.digest(), new WireLoom().digest());
        });
        s.test("clearBuffer is not undoable", () -> s.savesNothing(Looms::lively, WireLoom::clearBuffer));
    }

    private static void words() {
        s.test("A program as a text is one to sixteen words: none is no program", () -> {
            WireLoom x = new WireLoom();
            due(x.ifLoaded(0), NONE);
            due(x.bestPlace(), NONE);
            due(x.firstError(), 0);
        });
        s.test("A program as a text is one to sixteen words: one", () -> {
            due(Looms.typed("00").ifLoaded(0), 0);
            due(Looms.typed("ff").ifLoaded(0), 8);
        });
        s.test("A program as a text is one to sixteen words: sixteen", () -> {
            due(Looms.typed(SIXTEEN).ifLoaded(0), 32);
            dueError(SIXTEEN, 32);
        });
        s.test("A program as a text is one to sixteen words: no seventeenth", () -> {
            due(Looms.typed(SIXTEEN + "00").ifLoaded(0), NONE);
            dueError(SIXTEEN + "00", 32);
            dueError(SIXTEEN + "0", 32);
            dueError(DOTTED + "00", 47);
        });
        s.test("each two digits: one alone is no word", () -> {
            due(Looms.typed("0").ifLoaded(0), NONE);
            dueError("0", 1);
            due(Looms.typed("000").ifLoaded(0), NONE);
            dueError("000", 3);
            dueError("0.", 1);
            dueError("00.0.", 4);
        });
        s.test("digits \"0\" to \"9\" or \"a\" to \"f\": each of them", () -> {
            String digits = "0123456789abcdef";
            for (int digit = 0; digit < 16; digit++) {
                WireLoom x = Looms.loaded("0" + digits.charAt(digit));
                due(x.threadOf(0, 2), digit);
                WireLoom y = Looms.loaded(digits.charAt(digit) + "0");
                due(y.threadOf(0, 2), 16 * digit);
            }
        });
        s.test("digits \"0\" to \"9\" or \"a\" to \"f\": nothing else", () -> {
            for (char sign = 33; sign <= 126; sign++) {
                boolean digit = sign >= '0' && sign <= '9' || sign >= 'a' && sign <= 'f';
                dueError(String.valueOf(sign), digit ? 1 : 0);
                dueError("0" + sign, digit ? 2 : 1);
                dueError("00" + sign, digit || sign == '.' ? 3 : 2);
                dueError("00." + sign, digit ? 4 : 3);
            }
        });
        s.test("(the first one counts 16)", () -> {
            due(Looms.loaded("1f").threadOf(0, 2), 31);
            due(Looms.loaded("f1").threadOf(0, 2), 241);
            due(Looms.loaded("ff").threadOf(0, 2), 255);
            due(Looms.loaded("00").threadOf(0, 2), 0);
        });
        s.test("with or without \".\" behind each word", () -> {
            for (String text : new String[] {"0102.03", "01.0203", "01.02.03", "010203"}) {
                WireLoom x = Looms.loaded(text);
                due(x.threadOf(0, 2), 1);
                due(x.threadOf(1, 2), 2);
                due(x.threadOf(2, 2), 3);
                due(x.threadOf(3, 2), 0);
                dueError(text, text.length());
            }
        });
        s.test("\".\" behind each word but the last one: a text that ends with it is no program", () -> {
            due(Looms.typed("01.").ifLoaded(0), NONE);
            dueError("01.", 3);
            due(Looms.typed("01.02.").ifLoaded(0), NONE);
        });
        s.test("\".\" behind each word but the last one: none behind the sixteenth", () -> {
            dueError(DOTTED, 47);
            dueError(DOTTED + ".", 47);
            dueError(SIXTEEN + ".", 32);
            dueError(SIXTEEN.substring(0, 30) + ".", 31);
            due(Looms.typed(DOTTED).ifLoaded(0), 32);
            due(Looms.typed(DOTTED + ".").ifLoaded(0), NONE);
        });
        s.test("\".\" behind each word: no two of them, and none ahead of the first word", () -> {
            dueError("01..02", 3);
            dueError(".01", 0);
            dueError("0.1", 1);
        });
    }

    private static void firstError() {
        s.test("firstError returns the length of the buffer if there is none: of an empty one 0", () -> dueError("", 0));
        s.test("firstError returns the length of the buffer if there is none: of a text that begins a program", () -> {
            for (int length = 0; length <= DOTTED.length(); length++) {
                dueError(DOTTED.substring(0, length), length);
            }
            for (int length = 0; length <= SIXTEEN.length(); length++) {
                dueError(SIXTEEN.substring(0, length), length);
            }
        });
        s.test("firstError returns the index of the first character that is a syntax error: the first of all", () -> {
            dueError("x", 0);
            dueError("x0", 0);
            dueError("~".repeat(60), 0);
        });
        s.test("firstError returns the index of the first character that is a syntax error: the last of all", () -> {
            dueError("01.02x", 5);
            dueError(DOTTED.substring(0, 46) + "x", 46);
        });
        s.test("firstError returns the index of the first character that is a syntax error: of several", () -> {
            dueError("01x02y.z", 2);
            dueError("0x0y", 1);
        });
        s.test("firstError of a full buffer", () -> {
            dueError("0".repeat(60), 32);
            dueError(DOTTED + "0123456789abc", 47);
            dueError("0123456789abcdef".repeat(3) + "0123456789ab", 32);
        });
        s.test("The buffer is read from left to right; it stays", () -> {
            for (String text : NO_PROGRAMS) {
                WireLoom x = Looms.typed(text);
                x.firstError();
                s.same(x, Looms.typed(text));
            }
        });
        s.test("firstError looks only at what stands in the buffer now", () -> {
            WireLoom x = fullBuffer();
            x.clearBuffer();
            due(x.firstError(), 0);
            x.append('1');
            due(x.firstError(), 1);
            due(x.ifLoaded(0), NONE);
            x.append('2');
            due(x.firstError(), 2);
            due(x.ifLoaded(0), 2);
        });
    }

    private static void load() {
        s.test("load: thread: the thread for the first word, 0 to 15", () -> {
            s.range(Sentences.INDEX, 0, 15, WireLoom::load);
            for (int thread = 0; thread <= 15; thread++) {
                WireLoom x = Looms.typed("2a");
                due(x.load(thread), 3);
                due(x.threadOf(thread, 2), 0x2a);
                due(x.count(0), 3);
            }
        });
        s.test("load lays its words on the threads from one on (on the thread 0 behind the thread 15)", () -> {
            WireLoom x = Looms.typed("01.02.04");
            due(x.load(14), 3);
            due(x.threadOf(14, 2), 1);
            due(x.threadOf(15, 2), 2);
            due(x.threadOf(0, 2), 4);
            due(x.threadOf(1, 2), 0);
            due(x.threadOf(13, 2), 0);
        });
        s.test("(on the thread 0 behind the thread 15): not when the last word is on the thread 15", () -> {
            WireLoom x = Looms.typed("01.02");
            x.load(14);
            due(x.threadOf(15, 2), 2);
            due(x.threadOf(0, 2), 0);
        });
        s.test("(on the thread 0 behind the thread 15): sixteen words from each thread", () -> {
            for (int first = 0; first <= 15; first++) {
                WireLoom x = Looms.typed(SIXTEEN);
                due(x.load(first), 32);
                for (int thread = 0; thread <= 15; thread++) {
                    due(x.threadOf((first + thread) % 16, 2), thread);
                }
            }
        });
        s.test("load clears the buffer", () -> {
            WireLoom x = Looms.loaded(DOTTED);
            due(x.clearBuffer(), 0);
            due(x.firstError(), 0);
            due(x.append('1'), 1);
        });
        s.test("load returns how many crossings are changed: none, and it is undoable all the same", () -> {
            WireLoom x = Looms.typed("00.00");
            due(x.load(15), 0);
            due(x.count(9), 1);
            due(x.count(2), 0);
            due(x.clearBuffer(), 0);
            due(x.undo(), 0);
        });
        s.test("load returns how many crossings are changed: all", () -> {
            WireLoom x = Looms.typed("ff".repeat(16));
            due(x.load(7), 128);
            due(x.count(0), 128);
            due(x.ringOf(0, 0), 32);
        });
        s.test("load lays as lay() does: with setting 1 as 1", () -> {
            WireLoom x = Looms.typed("fe.7f");
            x.set(1, 1);
            due(x.load(15), 2);
            due(x.threadOf(15, 0), 1);
            due(x.threadOf(0, 0), 128);
        });
        s.test("load is undoable, as one call, and the buffer stays cleared", () -> {
            WireLoom x = Looms.lively();
            due(x.load(3), 9);
            due(x.count(9), 5);
            due(x.undo(), 4);
            WireLoom y = Looms.lively();
            y.clearBuffer();
            s.same(x, y);
        });
        s.test("load throws IllegalArgumentException if the buffer does not tell a program as a text", () -> {
            for (String text : NO_PROGRAMS) {
                s.refusedOn(() -> Looms.typed(text), Sentences.ARGUMENT, x -> x.load(0));
                s.refusedOn(() -> Looms.typed(text), Sentences.ARGUMENT, x -> x.load(15));
            }
        });
        s.test("load: of both exceptions the one that is named first", () -> {
            for (String text : NO_PROGRAMS) {
                s.refusedOn(() -> Looms.typed(text), Sentences.INDEX, x -> x.load(16));
                s.refusedOn(() -> Looms.typed(text), Sentences.INDEX, x -> x.load(-1));
            }
        });
    }

    private static void write() {
        s.test("write: first: the first thread, 0 to 15", () ->
            s.range(Sentences.INDEX, 0, 15, (x, first) -> x.write(first, 15)));
        s.test("write: last: 0 to 15", () -> s.range(Sentences.INDEX, 0, 15, (x, last) -> x.write(0, last)));
        s.test("write: last: the last thread, not less: the same one is no less", () -> {
            WireLoom x = Looms.lively();
            for (int thread = 0; thread <= 15; thread++) {
                due(x.write(thread, thread), 2);
            }
        });
        s.test("write throws IndexOutOfBoundsException if last is less than first", () -> {
            s.refused(Sentences.INDEX, x -> x.write(1, 0));
            s.refused(Sentences.INDEX, x -> x.write(15, 14));
            s.refused(Sentences.INDEX, x -> x.write(15, 0));
            s.refused(Sentences.INDEX, x -> x.write(-1, -1));
            s.refused(Sentences.INDEX, x -> x.write(16, 16));
            s.refused(Sentences.INDEX, x -> x.write(Integer.MIN_VALUE, Integer.MAX_VALUE));
            s.refused(Sentences.INDEX, x -> x.write(Integer.MAX_VALUE, Integer.MIN_VALUE));
        });
        s.test("write returns the length of the buffer then: two characters a word", () -> {
            for (int first = 0; first <= 15; first++) {
                for (int last = first; last <= 15; last++) {
                    due(new WireLoom().write(first, last), 2 * (last - first + 1));
                }
            }
        });
        s.test("write puts the words in place of what was there: of a full buffer", () -> {
            WireLoom x = fullBuffer();
            x.lay(15, 0xa5);
            due(x.write(15, 15), 2);
            due(x.digest(), Looms.digestOf(x, 0, 0, "a5"));
            due(x.clearBuffer(), 2);
        });
        s.test("write: a word below 16 has two digits, too; the first one counts 16", () -> {
            WireLoom x = new WireLoom();
            x.lay(0, 0x00);
            x.lay(1, 0x0f);
            x.lay(2, 0xf0);
            x.lay(3, 0x9a);
            x.lay(4, 0xa9);
            due(x.write(0, 4), 10);
            due(x.digest(), Looms.digestOf(x, 0, 0, "000ff09aa9"));
        });
        s.test("write: all the words from 0 to 255", () -> {
            for (int word = 0; word <= 255; word++) {
                WireLoom x = new WireLoom();
                x.lay(8, word);
                x.write(8, 8);
                due(x.digest(), Looms.digestOf(x, 0, 0, String.format("%02x", word)));
            }
        });
        s.test("write: the words that the threads tell, without wear", () -> {
            WireLoom x = Looms.chain();
            x.set(0, 5);
            due(x.write(0, 7), 16);
            due(x.digest(), Looms.digestOf(x, 0, 0, "03070f1e3c78f0e0"));
            due(x.count(3), 0);
            due(x.ringOf(0, 0), 4);
        });
        s.test("write: without \".\"", () -> {
            WireLoom x = new WireLoom();
            due(x.write(0, 15), 32);
            due(x.digest(), Looms.digestOf(x, 0, 0, "00".repeat(16)));
            due(x.firstError(), 32);
            due(x.load(0), 0);
        });
        s.test("write is not undoable", () -> s.savesNothing(Looms::lively, x -> x.write(0, 3)));
    }

    private static void ifLoaded() {
        s.test("ifLoaded: thread: 0 to 15", () -> s.range(Sentences.INDEX, 0, 15, WireLoom::ifLoaded));
        s.test("ifLoaded returns NONE if the buffer does not tell a program as a text", () -> {
            for (String text : NO_PROGRAMS) {
                for (int thread = 0; thread <= 15; thread += 5) {
                    due(Looms.typed(text).ifLoaded(thread), NONE);
                }
            }
        });
        s.test("ifLoaded returns what load() would return, also around the thread 15", () -> {
            for (int thread = 0; thread <= 15; thread++) {
                WireLoom x = Looms.lively();
                Looms.type(x, "ff.00.3c.25.60");
                int told = x.ifLoaded(thread);
                due(x.load(thread), told);
            }
        });
        s.test("ifLoaded returns what load() would return: with setting 1 as 1", () -> {
            for (int thread = 0; thread <= 15; thread++) {
                WireLoom x = Looms.lively();
                x.set(1, 1);
                Looms.type(x, DOTTED);
                int told = x.ifLoaded(thread);
                due(x.load(thread), told);
            }
        });
        s.test("ifLoaded returns what load() would return: no changes, and all", () -> {
            WireLoom x = Looms.typed("00".repeat(16));
            due(x.ifLoaded(9), 0);
            Looms.type(x, "ff".repeat(16));
            due(x.ifLoaded(9), 128);
        });
        s.test("ifLoaded changes nothing", () -> s.changesNothing(x -> x.ifLoaded(15)));
    }

    private static void bestPlace() {
        s.test("bestPlace returns NONE if the buffer does not tell a program as a text", () -> {
            for (String text : NO_PROGRAMS) {
                due(Looms.typed(text).bestPlace(), NONE);
            }
        });
        s.test("bestPlace: of several the lowest: of all", () -> {
            due(Looms.typed("00").bestPlace(), 0);
            due(Looms.typed("ff").bestPlace(), 0);
            due(Looms.typed("ff".repeat(16)).bestPlace(), 0);
        });
        s.test("bestPlace: of several the lowest: of two", () -> {
            WireLoom x = new WireLoom();
            x.lay(4, 0x81);
            x.lay(11, 0x81);
            Looms.type(x, "81");
            due(x.bestPlace(), 4);
            x.lay(4, 0x80);
            due(x.bestPlace(), 11);
        });
        s.test("bestPlace: each place may be the best", () -> {
            for (int thread = 0; thread <= 15; thread++) {
                WireLoom x = new WireLoom();
                x.lay(thread, 0x0f);
                x.lay((thread + 1) % 16, 0xf0);
                Looms.type(x, "0ff0");
                due(x.bestPlace(), thread);
            }
        });
        s.test("bestPlace: the least, though no place is without changes", () -> {
            WireLoom x = new WireLoom();
            x.lay(6, 0x7f);
            Looms.type(x, "ff.ff");
            due(x.ifLoaded(5), 9);
            due(x.ifLoaded(6), 9);
            due(x.bestPlace(), 5);
        });
        s.test("bestPlace changes nothing", () -> s.changesNothing(WireLoom::bestPlace));
    }

    public static void main(String[] args) {
        append();
        clearBuffer();
        words();
        firstError();
        load();
        write();
        ifLoaded();
        bestPlace();
        s.end();
    }
}
