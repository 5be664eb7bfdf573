import java.util.ArrayList;
import java.util.Arrays;
import java.util.List;

/**
 * The document once more, in another and slower way: crossings as booleans, ways by the lengths
 * between all rings, what would be by doing it on a copy. ModelTest holds WireLoom against it.
 */
final class Model {
    static final int NONE = -1;

    private boolean[][] through = new boolean[16][8];
    private boolean[] guarded = new boolean[16];
    private int[] readOften = new int[16];
    private int[] wear = new int[8];
    private int sure = 6;
    private int missing = 0;
    private int changed;
    private int readings;
    private int place;
    private int count;
    private int[] cells = new int[4];
    private List<Integer> told = new ArrayList<>();
    private boolean running = true;
    private int steps;
    /** The hops of each thread that were asked for since threads or guards were changed. */
    private int[][] known = new int[16][];

    private String text = "";
    private List<Model> saved = new ArrayList<>();
    private Model[] slots = new Model[2];

    private Model copy() {
        Model other = new Model();
        other.take(this);
        return other;
    }

    private void take(Model other) {
        for (int t = 0; t < 16; t++) {
            through[t] = other.through[t].clone();
        }
        guarded = other.guarded.clone();
        readOften = other.readOften.clone();
        wear = other.wear.clone();
        sure = other.sure;
        missing = other.missing;
        changed = other.changed;
        readings = other.readings;
        place = other.place;
        count = other.count;
        cells = other.cells.clone();
        told = new ArrayList<>(other.told);
        running = other.running;
        steps = other.steps;
        known = new int[16][];
    }

    private void save() {
        saved.add(copy());
        if (saved.size() > 6) {
            saved.remove(0);
        }
    }

    private static void index(boolean fine) {
        if (!fine) {
            throw new IndexOutOfBoundsException();
        }
    }

    private static void argument(boolean fine) {
        if (!fine) {
            throw new IllegalArgumentException();
        }
    }

    private static void state(boolean fine) {
        if (!fine) {
            throw new IllegalStateException();
        }
    }

    private static boolean isThread(int t) {
        return t >= 0 && t < 16;
    }

    private static boolean isRing(int r) {
        return r >= 0 && r < 8;
    }

    // ---- threads, rings

    private void doCross(int t, int r) {
        through[t][r] = !through[t][r];
        known = new int[16][];
        wear[r] = Math.min(99, wear[r] + 2);
        changed++;
    }

    private int doLay(int t, int word) {
        int done = 0;
        for (int r = 0; r < 8; r++) {
            boolean one = (word & (1 << r)) != 0;
            boolean wanted = missing == 0 ? one : !one;
            if (through[t][r] != wanted) {
                doCross(t, r);
                done++;
            }
        }
        return done;
    }

    int cross(int t, int r) {
        index(isThread(t) && isRing(r));
        save();
        doCross(t, r);
        return through[t][r] ? 1 : 0;
    }

    int lay(int t, int word) {
        index(isThread(t));
        argument(word >= 0 && word <= 255);
        save();
        return doLay(t, word);
    }

    int guard(int t) {
        index(isThread(t));
        save();
        guarded[t] = !guarded[t];
        known = new int[16][];
        return guarded[t] ? 1 : 0;
    }

    int change(int r) {
        index(isRing(r));
        save();
        int gone = 0;
        for (int t = 0; t < 16; t++) {
            gone += through[t][r] ? 1 : 0;
            through[t][r] = false;
        }
        wear[r] = 0;
        known = new int[16][];
        return gone;
    }

    int set(int setting, int value) {
        index(setting == 0 || setting == 1);
        argument(setting == 0 ? value >= 1 && value <= 8 : value == 0 || value == 1);
        save();
        int previous = setting(setting);
        if (setting == 0) {
            sure = value;
        } else {
            missing = value;
        }
        return previous;
    }

    // ---- strength, words

    private int hops(int reader, int ring) {
        if (known[reader] == null) {
            int[][] way = ways(reader);
            known[reader] = new int[8];
            for (int to = 0; to < 8; to++) {
                known[reader][to] = hopsBy(way, reader, to);
            }
        }
        return known[reader][ring];
    }

    /** The least number of threads between each two rings. */
    private int[][] ways(int reader) {
        int far = 1000;
        int[][] way = new int[8][8];
        for (int a = 0; a < 8; a++) {
            Arrays.fill(way[a], far);
            way[a][a] = 0;
        }
        for (int t = 0; t < 16; t++) {
            for (int a = 0; a < 8; a++) {
                for (int b = 0; b < 8; b++) {
                    if (t != reader && !guarded[t] && a != b && through[t][a] && through[t][b]) {
                        way[a][b] = 1;
                    }
                }
            }
        }
        for (int over = 0; over < 8; over++) {
            for (int a = 0; a < 8; a++) {
                for (int b = 0; b < 8; b++) {
                    way[a][b] = Math.min(way[a][b], way[a][over] + way[over][b]);
                }
            }
        }
        return way;
    }

    private int hopsBy(int[][] way, int reader, int ring) {
        int least = 1000;
        for (int a = 0; a < 8; a++) {
            if (through[reader][a]) {
                least = Math.min(least, way[a][ring]);
            }
        }
        return least >= 1000 ? NONE : least;
    }

    private int force(int t, int r) {
        int hops = hops(t, r);
        int force = hops == NONE ? 0 : Math.max(0, 8 - 3 * hops);
        return Math.max(0, force - wear[r] / 10);
    }

    private boolean answers(int t, int r) {
        return force(t, r) >= sure;
    }

    private int tells(int t) {
        int word = 0;
        for (int r = 0; r < 8; r++) {
            if (answers(t, r) == (missing == 0)) {
                word += 1 << r;
            }
        }
        return word;
    }

    private int means(int t) {
        int word = 0;
        for (int r = 0; r < 8; r++) {
            if (through[t][r] == (missing == 0)) {
                word += 1 << r;
            }
        }
        return word;
    }

    private int doRead(int t) {
        int word = tells(t);
        for (int r = 0; r < 8; r++) {
            if (through[t][r]) {
                wear[r] = Math.min(99, wear[r] + 1);
            }
        }
        readOften[t]++;
        readings++;
        return word;
    }

    // ---- reading, the machine

    int read(int t) {
        index(isThread(t));
        save();
        return doRead(t);
    }

    int start() {
        save();
        int before = steps;
        place = 0;
        count = 0;
        cells = new int[4];
        told = new ArrayList<>();
        running = true;
        steps = 0;
        return before;
    }

    private int doGo(int most) {
        int done = 0;
        for (int i = 0; i < most; i++) {
            if (!running) {
                break;
            }
            int word = doRead(place);
            place = place == 15 ? 0 : place + 1;
            int n = word & 31;
            int o = word >> 5;
            if (o == 0) {
                running = false;
            } else if (o == 1) {
                count = n;
            } else if (o == 2) {
                count = (count + cells[n & 3]) & 255;
            } else if (o == 3) {
                cells[n & 3] = count;
            } else if (o == 4 || o == 5 && count == 0) {
                place = n & 15;
            } else if (o == 6) {
                count = (count - n) & 255;
            } else if (o == 7) {
                told.add(count);
            }
            steps++;
            done++;
        }
        return done;
    }

    int go(int most) {
        argument(most >= 1 && most <= 99);
        save();
        return doGo(most);
    }

    // ---- texts, snapshots

    int append(int code) {
        argument(code >= 33 && code <= 126);
        state(text.length() < 60);
        text += (char) code;
        return text.length();
    }

    int clearBuffer() {
        int length = text.length();
        text = "";
        return length;
    }

    private static boolean isProgram(String s) {
        return s.matches("([0-9a-f]{2}[.]?){0,15}[0-9a-f]{2}");
    }

    /** A text begins a program if one of these ends makes it one. */
    private static boolean beginsProgram(String s) {
        return isProgram(s) || isProgram(s + "0") || isProgram(s + "00");
    }

    int firstError() {
        for (int i = 0; i < text.length(); i++) {
            if (!beginsProgram(text.substring(0, i + 1))) {
                return i;
            }
        }
        return text.length();
    }

    private int doLoad(int t) {
        String digits = text.replace(".", "");
        int done = 0;
        for (int i = 0; i < digits.length() / 2; i++) {
            done += doLay((t + i) % 16, Integer.parseInt(digits.substring(2 * i, 2 * i + 2), 16));
        }
        return done;
    }

    int load(int t) {
        index(isThread(t));
        argument(isProgram(text));
        save();
        int done = doLoad(t);
        text = "";
        return done;
    }

    int write(int first, int last) {
        index(isThread(first) && isThread(last) && last >= first);
        StringBuilder written = new StringBuilder();
        for (int t = first; t <= last; t++) {
            written.append(String.format("%02x", tells(t)));
        }
        text = written.toString();
        return text.length();
    }

    int keep(int slot) {
        argument(slot == 0 || slot == 1);
        slots[slot] = copy();
        return count(0);
    }

    int goBack(int slot) {
        argument(slot == 0 || slot == 1);
        state(slots[slot] != null);
        save();
        take(slots[slot]);
        return count(0);
    }

    int undo() {
        state(!saved.isEmpty());
        take(saved.remove(saved.size() - 1));
        return saved.size();
    }

    // ---- looks

    int threadOf(int t, int what) {
        index(isThread(t));
        argument(what >= 0 && what <= 7);
        int mask = 0;
        int sneaking = 0;
        int silent = 0;
        for (int r = 0; r < 8; r++) {
            mask += through[t][r] ? 1 << r : 0;
            sneaking += answers(t, r) && !through[t][r] ? 1 << r : 0;
            silent += !answers(t, r) && through[t][r] ? 1 << r : 0;
        }
        int[] all = {mask, guarded[t] ? 1 : 0, means(t), tells(t), Integer.bitCount(means(t) ^ tells(t)),
            sneaking, silent, readOften[t]};
        return all[what];
    }

    int ringOf(int r, int what) {
        index(isRing(r));
        argument(what >= 0 && what <= 4);
        int mask = 0;
        int many = 0;
        int answered = 0;
        int own = 0;
        for (int t = 0; t < 16; t++) {
            mask += through[t][r] ? 1 << t : 0;
            many += through[t][r] ? 1 : 0;
            answered += answers(t, r) ? 1 : 0;
            own += answers(t, r) && through[t][r] ? 1 : 0;
        }
        int[] all = {wear[r], mask, many, answered, many > 0 && own == 0 ? 1 : 0};
        return all[what];
    }

    int strength(int t, int r, int what) {
        index(isThread(t) && isRing(r));
        argument(what == 0 || what == 1);
        return what == 0 ? force(t, r) : hops(t, r);
    }

    int machine(int what) {
        argument(what >= 0 && what <= 8);
        int[] all = {place, count, cells[0], cells[1], cells[2], cells[3], running ? 1 : 0, steps, told.size()};
        return all[what];
    }

    int told(int ago) {
        argument(ago >= 0 && ago <= 7);
        return ago < told.size() ? told.get(told.size() - 1 - ago) : NONE;
    }

    int count(int what) {
        argument(what >= 0 && what <= 9);
        int crossings = 0;
        int right = 0;
        int guards = 0;
        int same = 0;
        int unlike = 8;
        for (int t = 0; t < 16; t++) {
            crossings += Integer.bitCount(means(t) ^ (missing == 0 ? 0 : 255));
            right += means(t) == tells(t) ? 1 : 0;
            guards += guarded[t] ? 1 : 0;
            for (int u = t + 1; what >= 7 && u < 16; u++) {
                same += tells(t) == tells(u) ? 1 : 0;
                unlike = Math.min(unlike, Integer.bitCount(means(t) ^ means(u)));
            }
        }
        int[] all = {crossings, crossings, changed, readings, right, guards, Arrays.stream(wear).max().getAsInt(),
            same, unlike, saved.size()};
        return all[what];
    }

    int setting(int setting) {
        index(setting == 0 || setting == 1);
        return setting == 0 ? sure : missing;
    }

    // ---- what would be

    int ifLoaded(int t) {
        index(isThread(t));
        if (!isProgram(text)) {
            return NONE;
        }
        Model other = copy();
        other.text = text;
        return other.doLoad(t);
    }

    int bestPlace() {
        int best = NONE;
        for (int t = 15; t >= 0; t--) {
            if (ifLoaded(t) != NONE && (best == NONE || ifLoaded(t) <= ifLoaded(best))) {
                best = t;
            }
        }
        return best;
    }

    int bestGuard() {
        int best = NONE;
        int most = -1;
        for (int t = 15; t >= 0; t--) {
            if (!guarded[t]) {
                Model other = copy();
                other.guard(t);
                if (other.count(4) >= most) {
                    most = other.count(4);
                    best = t;
                }
            }
        }
        return best;
    }

    int lastsFor(int t) {
        index(isThread(t));
        Model other = copy();
        for (int done = 1; done <= 99; done++) {
            other.doRead(t);
            if (other.tells(t) != tells(t)) {
                return done;
            }
        }
        return NONE;
    }

    int ifGone(int most, int what) {
        argument(most >= 1 && most <= 99 && what >= 0 && what <= 3);
        Model other = copy();
        int made = other.doGo(most);
        int[] all = {made, other.count, other.place, other.told.size() - told.size()};
        return all[what];
    }

    double rightShare() {
        return count(4) / 16.0;
    }

    float meanWear() {
        return Arrays.stream(wear).sum() / 8f;
    }

    long digest() {
        List<Long> list = new ArrayList<>();
        for (int what = 0; what < 10; what++) {
            list.add((long) count(what));
        }
        list.add((long) setting(0));
        list.add((long) setting(1));
        for (int t = 0; t < 16; t++) {
            for (int what = 0; what < 8; what++) {
                list.add((long) threadOf(t, what));
            }
            list.add((long) lastsFor(t));
        }
        for (int r = 0; r < 8; r++) {
            for (int what = 0; what < 5; what++) {
                list.add((long) ringOf(r, what));
            }
        }
        for (int r = 0; r < 16; r++) {
            list.add((long) strength(r / 8, r % 8, 0));
        }
        for (int what = 0; what < 9; what++) {
            list.add((long) machine(what));
        }
        for (int ago = 0; ago < 8; ago++) {
            list.add((long) told(ago));
        }
        for (int what = 0; what < 4; what++) {
            list.add((long) ifGone(20, what));
        }
        list.add((long) ifLoaded(0));
        list.add((long) bestPlace());
        list.add((long) bestGuard());
        list.add(Double.doubleToLongBits(rightShare()));
        list.add((long) Float.floatToIntBits(meanWear()));
        list.add(slots[0] == null ? 0L : 1L);
        list.add(slots[1] == null ? 0L : 1L);
        list.add((long) text.length());
        for (int i = 0; i < text.length(); i++) {
            list.add((long) text.charAt(i));
        }
        long hash = 3371;
        for (long value : list) {
            hash = 31 * hash + value;
        }
        return hash;
    }
}
