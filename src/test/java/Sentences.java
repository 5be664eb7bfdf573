import java.util.ArrayList;
import java.util.List;

/** Runs one test for each sentence of the document, and tells each sentence that does not hold. */
final class Sentences {
    static final Class<IndexOutOfBoundsException> INDEX = IndexOutOfBoundsException.class;
    static final Class<IllegalArgumentException> ARGUMENT = IllegalArgumentException.class;
    static final Class<IllegalStateException> STATE = IllegalStateException.class;

    interface Test {
        void run();
    }

    interface Make {
        WireLoom loom();
    }

    interface Call {
        long on(WireLoom loom);
    }

    interface CallWith {
        long on(WireLoom loom, int argument);
    }

    private static final Make[] LOOMS = {WireLoom::new, Looms::lively, Looms::busy, Looms::full};

    private final String test;
    private String sentence = "";
    private boolean holds;
    private int tests;
    private int broken;

    Sentences(String test) {
        this.test = test;
    }

    void test(String words, Test run) {
        sentence = words;
        holds = true;
        tests++;
        try {
            run.run();
        } catch (RuntimeException e) {
            wrong("threw " + e);
        }
        if (!holds) {
            broken++;
        }
    }

    void due(long got, long want) {
        if (got != want) {
            wrong("answered " + got + ", due is " + want);
        }
    }

    void due(boolean fine) {
        if (!fine) {
            wrong("not as due");
        }
    }

    /** Each number from the least to the most is taken, and the ones beyond are refused. */
    void range(Class<? extends RuntimeException> kind, int least, int most, CallWith call) {
        for (int argument = least; argument <= most; argument++) {
            call.on(Looms.lively(), argument);
        }
        tooSmall(kind, least, call);
        tooLarge(kind, most, call);
    }

    void tooSmall(Class<? extends RuntimeException> kind, int least, CallWith call) {
        refused(kind, x -> call.on(x, least - 1));
        refused(kind, x -> call.on(x, least - 256));
        refused(kind, x -> call.on(x, Integer.MIN_VALUE));
    }

    void tooLarge(Class<? extends RuntimeException> kind, int most, CallWith call) {
        refused(kind, x -> call.on(x, most + 1));
        refused(kind, x -> call.on(x, most + 256));
        refused(kind, x -> call.on(x, Integer.MAX_VALUE));
    }

    /** A call throws just this exception on each of some looms, and changes nothing there. */
    void refused(Class<? extends RuntimeException> kind, Call call) {
        for (Make make : LOOMS) {
            refusedOn(make, kind, call);
        }
    }

    void refusedOn(Make make, Class<? extends RuntimeException> kind, Call call) {
        WireLoom called = make.loom();
        try {
            wrong("answered " + call.on(called) + ", due is " + kind.getSimpleName());
        } catch (RuntimeException e) {
            if (e.getClass() != kind) {
                wrong("threw " + e.getClass().getSimpleName() + ", due is " + kind.getSimpleName());
            }
        }
        same(called, make.loom());
    }

    /** A call changes nothing on each of some looms. */
    void changesNothing(Call call) {
        for (Make make : LOOMS) {
            WireLoom called = make.loom();
            call.on(called);
            same(called, make.loom());
        }
    }

    /** A call saves the state from before it: after undo() all is as if it had not been made. */
    void undoable(Make make, Call call) {
        WireLoom called = make.loom();
        int saved = called.count(9);
        call.on(called);
        due(called.count(9), saved + 1);
        due(called.undo(), saved);
        same(called, make.loom());
    }

    /** A call that answers saves no state. */
    void savesNothing(Make make, Call call) {
        WireLoom called = make.loom();
        int saved = called.count(9);
        call.on(called);
        due(called.count(9), saved);
    }

    /** Uses two looms up: what is looked at, in the saved states and in the slots, too. */
    void same(WireLoom one, WireLoom other) {
        if (!everything(one).equals(everything(other))) {
            wrong("something is otherwise than due");
        }
    }

    private static List<Long> everything(WireLoom x) {
        List<Long> all = new ArrayList<>();
        all.add(x.digest());
        for (int left = x.count(9); left > 0; left--) {
            all.add((long) x.undo());
            all.add(x.digest());
        }
        for (int slot = 0; slot < 2; slot++) {
            try {
                all.add((long) x.goBack(slot));
            } catch (IllegalStateException e) {
                all.add(-1L);
            }
            all.add(x.digest());
        }
        return all;
    }

    private void wrong(String text) {
        if (holds) {
            System.out.println(test + ": " + sentence + ": " + text + place());
        }
        holds = false;
    }

    /** The line in the sentence's own test, not in a method that it calls. */
    private String place() {
        for (StackTraceElement at : new Throwable().getStackTrace()) {
            if (at.getClassName().equals(test) && at.getMethodName().startsWith("lambda$")) {
                return " (line " + at.getLineNumber() + ")";
            }
        }
        return "";
    }

    void end() {
        System.out.println(test + ": " + tests + " sentences, " + broken + " do not hold");
        if (broken > 0) {
            System.exit(1);
        }
    }
}
