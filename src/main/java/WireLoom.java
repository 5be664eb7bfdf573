/**
 * A loom of wire: 16 threads go through 8 rings or past them, a thread that is read tells a word of
 * eight bits, and a small machine reads its orders from the loom.
 */
public final class WireLoom {
    public static final int NONE = -1;

    private static final int THREADS = 16;
    private static final int RINGS = 8;
    private static final int ALL_RINGS = 255;
    private static final int MOST_WEAR = 99;
    private static final int WEAR_OF_CHANGE = 2;
    private static final int FULL_STRENGTH = 8;
    private static final int LOSS_PER_HOP = 3;
    private static final int WEAR_PER_LOSS = 10;
    private static final int SETTINGS = 2;
    private static final int SLOTS = 2;
    private static final int MOST_STEPS = 99;
    private static final int DIGEST_START = 3371;
    private static final int DIGEST_STEPS = 20;
    private static final int DOUBLE_FRACTION = 52;
    private static final int DOUBLE_BIAS = 1023;
    private static final int FLOAT_FRACTION = 23;
    private static final int FLOAT_BIAS = 127;

    private final State now = new State();
    /** What would be is tried here, so that nothing is made in a call. */
    private final State trial = new State();
    private final Past past = new Past();
    private final State[] snapshots = new State[SLOTS];
    private final boolean[] kept = new boolean[SLOTS];
    private final Text buffer = new Text();
    private final int[] wordsTold = new int[THREADS];

    public WireLoom() {
        for (int slot = 0; slot < SLOTS; slot++) {
            snapshots[slot] = new State();
        }
    }

    // ---- threads, rings

    public int cross(int thread, int ring) throws IndexOutOfBoundsException {
        if (!isThread(thread) || !isRing(ring)) {
            throw new IndexOutOfBoundsException("no such thread or ring");
        }
        past.push(now);
        now.layThrough(thread, now.rings[thread] ^ (1 << ring));
        return bit(now.rings[thread], ring);
    }

    public int lay(int thread, int word) throws IndexOutOfBoundsException, IllegalArgumentException {
        if (!isThread(thread)) {
            throw new IndexOutOfBoundsException("no such thread");
        }
        if (!isWithin(word, 0, ALL_RINGS)) {
            throw new IllegalArgumentException("word is out of range");
        }
        past.push(now);
        return now.layThrough(thread, now.asWord(word));
    }

    public int guard(int thread) throws IndexOutOfBoundsException {
        if (!isThread(thread)) {
            throw new IndexOutOfBoundsException("no such thread");
        }
        past.push(now);
        now.guarded = now.guarded ^ (1 << thread);
        return bit(now.guarded, thread);
    }

    public int change(int ring) throws IndexOutOfBoundsException {
        if (!isRing(ring)) {
            throw new IndexOutOfBoundsException("no such ring");
        }
        past.push(now);
        return now.renewRing(ring);
    }

    public int set(int setting, int value) throws IndexOutOfBoundsException, IllegalArgumentException {
        if (!isSetting(setting)) {
            throw new IndexOutOfBoundsException("no such setting");
        }
        if (!isWithin(value, setting == 0 ? 1 : 0, setting == 0 ? FULL_STRENGTH : 1)) {
            throw new IllegalArgumentException("value is out of range");
        }
        past.push(now);
        int previous = now.settings[setting];
        now.settings[setting] = value;
        return previous;
    }

    // ---- reading, the machine

    public int read(int thread) throws IndexOutOfBoundsException {
        if (!isThread(thread)) {
            throw new IndexOutOfBoundsException("no such thread");
        }
        past.push(now);
        return now.takeReading(thread);
    }

    public int start() {
        past.push(now);
        int steps = now.machine.steps;
        now.machine.begin();
        return steps;
    }

    public int go(int steps) throws IllegalArgumentException {
        if (!isWithin(steps, 1, MOST_STEPS)) {
            throw new IllegalArgumentException("steps is out of range");
        }
        past.push(now);
        return now.run(steps);
    }

    // ---- texts, snapshots

    public int append(int code) throws IllegalArgumentException, IllegalStateException {
        if (!isWithin(code, 33, 126)) {
            throw new IllegalArgumentException("code is not 33 to 126");
        }
        if (buffer.length >= Text.MOST_CODES) {
            throw new IllegalStateException("the buffer is full");
        }
        buffer.put(code);
        return buffer.length;
    }

    public int clearBuffer() {
        int length = buffer.length;
        buffer.length = 0;
        return length;
    }

    public int firstError() {
        return buffer.parse();
    }

    public int load(int thread) throws IndexOutOfBoundsException, IllegalArgumentException {
        if (!isThread(thread)) {
            throw new IndexOutOfBoundsException("no such thread");
        }
        if (!buffer.tellsProgram()) {
            throw new IllegalArgumentException("the buffer does not tell a program");
        }
        past.push(now);
        int changed = 0;
        for (int i = 0; i < buffer.wordCount; i++) {
            changed += now.layThrough((thread + i) % THREADS, now.asWord(buffer.words[i]));
        }
        buffer.length = 0;
        return changed;
    }

    public int write(int first, int last) throws IndexOutOfBoundsException {
        if (!isThread(first) || !isThread(last) || last < first) {
            throw new IndexOutOfBoundsException("no such thread, or last is less than first");
        }
        buffer.length = 0;
        for (int thread = first; thread <= last; thread++) {
            buffer.putWord(now.tells(thread));
        }
        return buffer.length;
    }

    public int keep(int slot) throws IllegalArgumentException {
        if (!isSlot(slot)) {
            throw new IllegalArgumentException("slot is out of range");
        }
        snapshots[slot].become(now);
        kept[slot] = true;
        return now.crossingsByThreads();
    }

    public int goBack(int slot) throws IllegalArgumentException, IllegalStateException {
        if (!isSlot(slot)) {
            throw new IllegalArgumentException("slot is out of range");
        }
        if (!kept[slot]) {
            throw new IllegalStateException("there is no snapshot in it");
        }
        past.push(now);
        now.become(snapshots[slot]);
        return now.crossingsByThreads();
    }

    public int undo() throws IllegalStateException {
        if (past.size == 0) {
            throw new IllegalStateException("there is no saved state");
        }
        past.popInto(now);
        return past.size;
    }

    // ---- looks; nothing is changed (nothing is worn by these)

    public int threadOf(int thread, int what) throws IndexOutOfBoundsException, IllegalArgumentException {
        if (!isThread(thread)) {
            throw new IndexOutOfBoundsException("no such thread");
        }
        switch (what) {
            case 0:
                return now.rings[thread];
            case 1:
                return bit(now.guarded, thread);
            case 2:
                return now.means(thread);
            case 3:
                return now.tells(thread);
            case 4:
                return Integer.bitCount(now.means(thread) ^ now.tells(thread));
            case 5:
                return now.answering(thread) & ~now.rings[thread];
            case 6:
                return now.rings[thread] & ~now.answering(thread);
            case 7:
                return now.readings[thread];
            default:
                throw new IllegalArgumentException("what is not 0 to 7");
        }
    }

    public int ringOf(int ring, int what) throws IndexOutOfBoundsException, IllegalArgumentException {
        if (!isRing(ring)) {
            throw new IndexOutOfBoundsException("no such ring");
        }
        switch (what) {
            case 0:
                return now.wear[ring];
            case 1:
                return now.threadsThrough(ring);
            case 2:
                return Integer.bitCount(now.threadsThrough(ring));
            case 3:
                return now.threadsAnswered(ring);
            case 4:
                return now.isWornOut(ring) ? 1 : 0;
            default:
                throw new IllegalArgumentException("what is not 0 to 4");
        }
    }

    public int strength(int thread, int ring, int what) throws IndexOutOfBoundsException, IllegalArgumentException {
        if (!isThread(thread) || !isRing(ring)) {
            throw new IndexOutOfBoundsException("no such thread or ring");
        }
        switch (what) {
            case 0:
                return now.strengthAt(ring, now.hops(thread, ring));
            case 1:
                return now.hops(thread, ring);
            default:
                throw new IllegalArgumentException("what is not 0 or 1");
        }
    }

    public int machine(int what) throws IllegalArgumentException {
        switch (what) {
            case 0:
                return now.machine.place;
            case 1:
                return now.machine.count;
            case 2:
            case 3:
            case 4:
            case 5:
                return now.machine.cells[what - 2];
            case 6:
                return now.machine.running ? 1 : 0;
            case 7:
                return now.machine.steps;
            case 8:
                return now.machine.tellings;
            default:
                throw new IllegalArgumentException("what is not 0 to 8");
        }
    }

    public int told(int ago) throws IllegalArgumentException {
        if (!isWithin(ago, 0, Machine.KNOWN - 1)) {
            throw new IllegalArgumentException("ago is out of range");
        }
        return now.machine.latest[ago];
    }

    public int count(int what) throws IllegalArgumentException {
        switch (what) {
            case 0:
                return now.crossingsByThreads();
            case 1:
                return now.crossingsByRings();
            case 2:
                return now.crossingsChanged;
            case 3:
                return now.readingsDone;
            case 4:
                return now.threadsRight();
            case 5:
                return Integer.bitCount(now.guarded);
            case 6:
                return now.greatestWear();
            case 7:
                return pairsTellingTheSame();
            case 8:
                return now.fewestUnlikeBits();
            case 9:
                return past.size;
            default:
                throw new IllegalArgumentException("what is not 0 to 9");
        }
    }

    public int setting(int setting) throws IndexOutOfBoundsException {
        if (!isSetting(setting)) {
            throw new IndexOutOfBoundsException("no such setting");
        }
        return now.settings[setting];
    }

    // ---- what would be; nothing is changed

    public int ifLoaded(int thread) throws IndexOutOfBoundsException {
        if (!isThread(thread)) {
            throw new IndexOutOfBoundsException("no such thread");
        }
        return buffer.tellsProgram() ? changesOfProgramAt(thread) : NONE;
    }

    public int bestPlace() {
        if (!buffer.tellsProgram()) {
            return NONE;
        }
        int best = 0;
        int fewest = changesOfProgramAt(0);
        for (int thread = 1; thread < THREADS; thread++) {
            int changes = changesOfProgramAt(thread);
            if (changes < fewest) {
                best = thread;
                fewest = changes;
            }
        }
        return best;
    }

    public int bestGuard() {
        int best = NONE;
        int most = NONE;
        trial.become(now);
        for (int thread = 0; thread < THREADS; thread++) {
            if (bit(now.guarded, thread) == 0) {
                trial.guarded = now.guarded | (1 << thread);
                int right = trial.threadsRight();
                if (right > most) {
                    best = thread;
                    most = right;
                }
            }
        }
        return best;
    }

    public int lastsFor(int thread) throws IndexOutOfBoundsException {
        if (!isThread(thread)) {
            throw new IndexOutOfBoundsException("no such thread");
        }
        return now.readingsUntilChange(thread);
    }

    public int ifGone(int steps, int what) throws IllegalArgumentException {
        if (!isWithin(steps, 1, MOST_STEPS) || !isWithin(what, 0, 3)) {
            throw new IllegalArgumentException("an argument is out of range");
        }
        trial.become(now);
        int made = trial.run(steps);
        switch (what) {
            case 0:
                return made;
            case 1:
                return trial.machine.count;
            case 2:
                return trial.machine.place;
            default:
                return trial.machine.tellings - now.machine.tellings;
        }
    }

    public double rightShare() {
        return (double) now.threadsRight() / 16.0;
    }

    public float meanWear() {
        return (float) now.wearOfAll() / 8.0f;
    }

    public long digest() {
        long hash = DIGEST_START;
        for (int what = 0; what <= 9; what++) {
            hash = 31 * hash + count(what);
        }
        for (int setting = 0; setting < SETTINGS; setting++) {
            hash = 31 * hash + now.settings[setting];
        }
        hash = digestMachine(digestRings(digestThreads(hash)));
        for (int what = 0; what <= 3; what++) {
            hash = 31 * hash + ifGone(DIGEST_STEPS, what);
        }
        hash = 31 * hash + ifLoaded(0);
        hash = 31 * hash + bestPlace();
        hash = 31 * hash + bestGuard();
        hash = 31 * hash + bitsOfShare(now.threadsRight(), 4, DOUBLE_FRACTION, DOUBLE_BIAS);
        hash = 31 * hash + bitsOfShare(now.wearOfAll(), 3, FLOAT_FRACTION, FLOAT_BIAS);
        for (int slot = 0; slot < SLOTS; slot++) {
            hash = 31 * hash + (kept[slot] ? 1 : 0);
        }
        return digestBuffer(hash);
    }

    private long digestThreads(long start) {
        long hash = start;
        for (int thread = 0; thread < THREADS; thread++) {
            for (int what = 0; what <= 7; what++) {
                hash = 31 * hash + threadOf(thread, what);
            }
            hash = 31 * hash + now.readingsUntilChange(thread);
        }
        return hash;
    }

    private long digestRings(long start) {
        long hash = start;
        for (int ring = 0; ring < RINGS; ring++) {
            for (int what = 0; what <= 4; what++) {
                hash = 31 * hash + ringOf(ring, what);
            }
        }
        for (int thread = 0; thread <= 1; thread++) {
            for (int ring = 0; ring < RINGS; ring++) {
                hash = 31 * hash + strength(thread, ring, 0);
            }
        }
        return hash;
    }

    private long digestMachine(long start) {
        long hash = start;
        for (int what = 0; what <= 8; what++) {
            hash = 31 * hash + machine(what);
        }
        for (int ago = 0; ago < Machine.KNOWN; ago++) {
            hash = 31 * hash + now.machine.latest[ago];
        }
        return hash;
    }

    private long digestBuffer(long start) {
        long hash = 31 * start + buffer.length;
        for (int i = 0; i < buffer.length; i++) {
            hash = 31 * hash + buffer.codes[i];
        }
        return hash;
    }

    /**
     * The bits of dividend / 2^halvings as a floating number. LANGUAGE.md leaves no
     * Double.doubleToLongBits; the dividends here are small enough to be told without rounding.
     */
    private static long bitsOfShare(int dividend, int halvings, int fraction, int bias) {
        if (dividend <= 0) {
            return 0;
        }
        int top = 0;
        for (int place = 1; place < 31; place++) {
            if (bit(dividend, place) == 1) {
                top = place;
            }
        }
        long exponent = bias + top - halvings;
        long rest = dividend - (1 << top);
        return (exponent << fraction) + (rest << (fraction - top));
    }

    private int changesOfProgramAt(int thread) {
        int changes = 0;
        for (int i = 0; i < buffer.wordCount; i++) {
            int unlike = now.means((thread + i) % THREADS) ^ buffer.words[i];
            changes += Integer.bitCount(unlike);
        }
        return changes;
    }

    private int pairsTellingTheSame() {
        int pairs = 0;
        for (int thread = 0; thread < THREADS; thread++) {
            wordsTold[thread] = now.tells(thread);
            for (int other = 0; other < thread; other++) {
                if (wordsTold[other] == wordsTold[thread]) {
                    pairs++;
                }
            }
        }
        return pairs;
    }

    private static boolean isWithin(int number, int least, int most) {
        return number >= least && number <= most;
    }

    private static boolean isThread(int thread) {
        return isWithin(thread, 0, THREADS - 1);
    }

    private static boolean isRing(int ring) {
        return isWithin(ring, 0, RINGS - 1);
    }

    private static boolean isSetting(int setting) {
        return isWithin(setting, 0, SETTINGS - 1);
    }

    private static boolean isSlot(int slot) {
        return isWithin(slot, 0, SLOTS - 1);
    }

    private static int bit(int mask, int place) {
        return (mask >> place) & 1;
    }

    /** The loom and its machine at one time: all that a snapshot and a saved state hold. */
    private static final class State {
        /** For each thread the rings through which it goes, as a mask. */
        final int[] rings = new int[THREADS];
        final int[] readings = new int[THREADS];
        final int[] wear = new int[RINGS];
        final int[] settings = new int[SETTINGS];
        final Machine machine = new Machine();
        /** The guarded threads, as a mask. */
        int guarded;
        int crossingsChanged;
        int readingsDone;

        State() {
            settings[0] = 6;
        }

        void become(State other) {
            System.arraycopy(other.rings, 0, rings, 0, THREADS);
            System.arraycopy(other.readings, 0, readings, 0, THREADS);
            System.arraycopy(other.wear, 0, wear, 0, RINGS);
            System.arraycopy(other.settings, 0, settings, 0, SETTINGS);
            machine.becomeLike(other.machine);
            guarded = other.guarded;
            crossingsChanged = other.crossingsChanged;
            readingsDone = other.readingsDone;
        }

        /** The word that a mask of rings is, or the mask that a word is: one way is the other, too. */
        int asWord(int mask) {
            return settings[1] == 0 ? mask : mask ^ ALL_RINGS;
        }

        int means(int thread) {
            return asWord(rings[thread]);
        }

        int tells(int thread) {
            return asWord(answering(thread));
        }

        /** Lays a thread through the rings of a mask; answers how many crossings are changed. */
        int layThrough(int thread, int mask) {
            int unlike = rings[thread] ^ mask;
            wearRings(unlike, WEAR_OF_CHANGE);
            rings[thread] = mask;
            int changed = Integer.bitCount(unlike);
            crossingsChanged += changed;
            return changed;
        }

        int renewRing(int ring) {
            int threads = Integer.bitCount(threadsThrough(ring));
            for (int thread = 0; thread < THREADS; thread++) {
                rings[thread] &= ~(1 << ring);
            }
            wear[ring] = 0;
            return threads;
        }

        void wearRings(int mask, int more) {
            for (int ring = 0; ring < RINGS; ring++) {
                if (bit(mask, ring) == 1) {
                    wear[ring] = Math.min(wear[ring] + more, MOST_WEAR);
                }
            }
        }

        int takeReading(int thread) {
            int word = tells(thread);
            wearRings(rings[thread], 1);
            readings[thread]++;
            readingsDone++;
            return word;
        }

        int run(int steps) {
            int made = 0;
            while (made < steps && machine.running) {
                int word = takeReading(machine.place);
                machine.obey(word);
                made++;
            }
            return made;
        }

        /** The rings to which one comes from some by at most one more thread than to these. */
        int oneThreadOn(int reader, int reached) {
            int further = reached;
            for (int thread = 0; thread < THREADS; thread++) {
                boolean joins = (rings[thread] & reached) != 0;
                if (joins && thread != reader && bit(guarded, thread) == 0) {
                    further |= rings[thread];
                }
            }
            return further;
        }

        /** A shortest way meets no thread twice, so that "all unlike" need not be looked at. */
        int hops(int reader, int ring) {
            int reached = rings[reader];
            for (int hops = 0; hops < RINGS; hops++) {
                if (bit(reached, ring) == 1) {
                    return hops;
                }
                reached = oneThreadOn(reader, reached);
            }
            return NONE;
        }

        int strengthAt(int ring, int hops) {
            if (hops == NONE) {
                return 0;
            }
            int fresh = Math.max(FULL_STRENGTH - LOSS_PER_HOP * hops, 0);
            return Math.max(fresh - wear[ring] / WEAR_PER_LOSS, 0);
        }

        /** The rings that answer when a thread is read, as a mask. */
        int answering(int reader) {
            int answers = 0;
            int before = 0;
            int reached = rings[reader];
            // beyond these hops no strength is left, and a strength of 0 never answers
            for (int hops = 0; LOSS_PER_HOP * hops < FULL_STRENGTH; hops++) {
                int come = reached & ~before;
                for (int ring = 0; ring < RINGS; ring++) {
                    if (bit(come, ring) == 1 && strengthAt(ring, hops) >= settings[0]) {
                        answers |= 1 << ring;
                    }
                }
                before = reached;
                reached = oneThreadOn(reader, reached);
            }
            return answers;
        }

        /**
         * A reading wears only rings through which the thread goes, and these only lose their
         * answers by it: the word becomes another one when the first of them does.
         */
        int readingsUntilChange(int thread) {
            int wearOfLoss = WEAR_PER_LOSS * (FULL_STRENGTH - settings[0] + 1);
            int first = NONE;
            for (int ring = 0; ring < RINGS; ring++) {
                int left = wearOfLoss - wear[ring];
                if (bit(rings[thread], ring) == 1 && left > 0 && (first == NONE || left < first)) {
                    first = left;
                }
            }
            return first;
        }

        int threadsThrough(int ring) {
            int threads = 0;
            for (int thread = 0; thread < THREADS; thread++) {
                threads |= bit(rings[thread], ring) << thread;
            }
            return threads;
        }

        int threadsAnswered(int ring) {
            int threads = 0;
            for (int thread = 0; thread < THREADS; thread++) {
                threads += bit(answering(thread), ring);
            }
            return threads;
        }

        /** Each thread through a ring has the same strength in it. */
        boolean isWornOut(int ring) {
            return threadsThrough(ring) != 0 && strengthAt(ring, 0) < settings[0];
        }

        int threadsRight() {
            int right = 0;
            for (int thread = 0; thread < THREADS; thread++) {
                if (answering(thread) == rings[thread]) {
                    right++;
                }
            }
            return right;
        }

        int crossingsByThreads() {
            int crossings = 0;
            for (int thread = 0; thread < THREADS; thread++) {
                crossings += Integer.bitCount(rings[thread]);
            }
            return crossings;
        }

        int crossingsByRings() {
            int crossings = 0;
            for (int ring = 0; ring < RINGS; ring++) {
                crossings += Integer.bitCount(threadsThrough(ring));
            }
            return crossings;
        }

        int greatestWear() {
            int greatest = 0;
            for (int ring = 0; ring < RINGS; ring++) {
                greatest = Math.max(greatest, wear[ring]);
            }
            return greatest;
        }

        int wearOfAll() {
            int sum = 0;
            for (int ring = 0; ring < RINGS; ring++) {
                sum += wear[ring];
            }
            return sum;
        }

        int fewestUnlikeBits() {
            int fewest = RINGS;
            for (int thread = 0; thread < THREADS; thread++) {
                for (int other = 0; other < thread; other++) {
                    fewest = Math.min(fewest, Integer.bitCount(rings[thread] ^ rings[other]));
                }
            }
            return fewest;
        }
    }

    /** The machine's own numbers; what it reads stands in the state that it belongs to. */
    private static final class Machine {
        static final int KNOWN = 8;
        private static final int CELLS = 4;
        private static final int COUNTS = 256;

        final int[] cells = new int[CELLS];
        /** What it told, the latest first; NONE where it told nothing. */
        final int[] latest = new int[KNOWN];
        int place;
        int count;
        boolean running;
        int steps;
        int tellings;

        Machine() {
            begin();
        }

        void begin() {
            for (int cell = 0; cell < CELLS; cell++) {
                cells[cell] = 0;
            }
            for (int ago = 0; ago < KNOWN; ago++) {
                latest[ago] = NONE;
            }
            place = 0;
            count = 0;
            running = true;
            steps = 0;
            tellings = 0;
        }

        void becomeLike(Machine other) {
            System.arraycopy(other.cells, 0, cells, 0, CELLS);
            System.arraycopy(other.latest, 0, latest, 0, KNOWN);
            place = other.place;
            count = other.count;
            running = other.running;
            steps = other.steps;
            tellings = other.tellings;
        }

        /** Does the word that the thread of its place told; the place moves on first, so that a jump holds. */
        void obey(int word) {
            int order = word / 32;
            int number = word % 32;
            steps++;
            place = (place + 1) % THREADS;
            switch (order) {
                case 0:
                    running = false;
                    break;
                case 1:
                    count = number;
                    break;
                case 2:
                    count = (count + cells[number % CELLS]) % COUNTS;
                    break;
                case 3:
                    cells[number % CELLS] = count;
                    break;
                case 4:
                    place = number % THREADS;
                    break;
                case 5:
                    place = count == 0 ? number % THREADS : place;
                    break;
                case 6:
                    count = (count + COUNTS - number) % COUNTS;
                    break;
                default:
                    tellCount();
                    break;
            }
        }

        private void tellCount() {
            for (int ago = KNOWN - 1; ago > 0; ago--) {
                latest[ago] = latest[ago - 1];
            }
            latest[0] = count;
            tellings++;
        }
    }

    /** The saved states, the oldest of which gives way; all are made at first and used again. */
    private static final class Past {
        private static final int MOST_SAVED = 6;

        private final State[] saved = new State[MOST_SAVED];
        private int oldest;
        int size;

        Past() {
            for (int i = 0; i < MOST_SAVED; i++) {
                saved[i] = new State();
            }
        }

        void push(State state) {
            saved[(oldest + size) % MOST_SAVED].become(state);
            if (size < MOST_SAVED) {
                size++;
            } else {
                oldest = (oldest + 1) % MOST_SAVED;
            }
        }

        void popInto(State state) {
            if (size > 0) {
                size--;
                state.become(saved[(oldest + size) % MOST_SAVED]);
            }
        }
    }

    /** The buffer, and the words of the program that it tells. */
    private static final class Text {
        static final int MOST_CODES = 60;
        private static final int MOST_WORDS = 16;
        private static final int WORD_IS_DUE = 0;
        private static final int SECOND_DIGIT_IS_DUE = 1;
        private static final int BEHIND_WORD = 2;
        private static final int WRONG = 3;

        final int[] codes = new int[MOST_CODES];
        final int[] words = new int[MOST_WORDS];
        int length;
        /** How many words the latest parse found. */
        int wordCount;
        private int phase;

        void put(int code) {
            if (length < MOST_CODES) {
                codes[length] = code;
                length++;
            }
        }

        void putWord(int word) {
            put(signOf(word / 16));
            put(signOf(word % 16));
        }

        boolean tellsProgram() {
            return parse() == length && phase == BEHIND_WORD;
        }

        /** Answers the index of the first syntax error, or the length. */
        int parse() {
            phase = WORD_IS_DUE;
            wordCount = 0;
            for (int i = 0; i < length; i++) {
                takeCode(codes[i]);
                if (phase == WRONG) {
                    return i;
                }
            }
            return length;
        }

        private void takeCode(int code) {
            int digit = digitOf(code);
            boolean wordFits = wordCount < MOST_WORDS;
            if (digit != NONE && wordFits && phase == SECOND_DIGIT_IS_DUE) {
                words[wordCount] += digit;
                wordCount++;
                phase = BEHIND_WORD;
            } else if (digit != NONE && wordFits) {
                words[wordCount] = 16 * digit;
                phase = SECOND_DIGIT_IS_DUE;
            } else if (code == '.' && wordFits && phase == BEHIND_WORD) {
                phase = WORD_IS_DUE;
            } else {
                phase = WRONG;
            }
        }

        private static int signOf(int digit) {
            return digit < 10 ? '0' + digit : 'a' + digit - 10;
        }

        private static int digitOf(int code) {
            if (code >= '0' && code <= '9') {
                return code - '0';
            }
            if (code >= 'a' && code <= 'f') {
                return code - 'a' + 10;
            }
            return NONE;
        }
    }
}
