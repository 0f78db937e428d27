import java.util.NoSuchElementException;

/** Counts the answers that are not the ones that are due, and tells each of them. */
final class Check {
    interface Call {
        long answer();
    }

    interface Act {
        void run();
    }

    /** Makes a new object and brings it into the state that a test begins from. */
    interface Scene {
        TypeStack make();
    }

    interface Use {
        void on(TypeStack x);
    }

    interface Ask {
        long of(TypeStack x);
    }

    private int wrong = 0;
    private int looked = 0;
    private String part = "";

    void part(String name) {
        part = name;
    }

    void due(String call, String got, String want) {
        looked++;
        if (!got.equals(want)) {
            wrong++;
            System.out.println(part + ": " + call + " answered " + got + ", due is " + want);
        }
    }

    void due(String call, long want, Call asked) {
        due(call, outcome(asked), Long.toString(want));
    }

    void fine(String call, Act act) {
        due(call, outcome(act), "nothing");
    }

    /**
     * The call must throw just that class, and must leave the whole state as it was. Only for an object
     * that has little in it and is looked at so a few times: see state.
     */
    void refused(TypeStack x, String call, Class<? extends RuntimeException> want, Act act) {
        String before = state(x);
        due(call, outcome(act), "throws." + want.getSimpleName());
        due("the state behind " + call, state(x), before);
    }

    /** The same of a new object for every look, so that none of them is called more than 512 times. */
    void refused(String call, Class<? extends RuntimeException> want, Scene scene, Use use) {
        TypeStack x = scene.make();
        due(call, outcome(() -> use.on(x)), "throws." + want.getSimpleName());
        due("the state behind " + call, stateOf(() -> tried(scene, use)), stateOf(scene));
    }

    void answers(String call, long want, Scene scene, Ask ask) {
        TypeStack x = scene.make();
        due(call, want, () -> ask.of(x));
    }

    void fine(String call, Scene scene, Use use) {
        TypeStack x = scene.make();
        fine(call, () -> use.on(x));
    }

    private static TypeStack tried(Scene scene, Use use) {
        TypeStack x = scene.make();
        outcome(() -> use.on(x));
        return x;
    }

    /** All that can be asked, of two objects in the same state: one alone would be asked too often. */
    private static String stateOf(Scene scene) {
        TypeStack first = scene.make();
        TypeStack second = scene.make();
        return counts(first) + " stack" + stack(first) + " frames" + framesOf(second);
    }

    static String outcome(Act act) {
        return outcome(() -> {
            act.run();
            return Long.MIN_VALUE;
        });
    }

    static String outcome(Call asked) {
        try {
            long answer = asked.answer();
            return answer == Long.MIN_VALUE ? "nothing" : Long.toString(answer);
        } catch (RuntimeException e) {
            return "throws." + e.getClass().getSimpleName();
        }
    }

    /**
     * All that can be asked of an object. Every type and every frame costs calls, and the document
     * promises no answer behind an object's 512th: an object that is full, or is asked over and over, is
     * looked at by way of a Scene instead.
     */
    static String state(TypeStack x) {
        return counts(x) + " stack" + stack(x) + " frames" + framesOf(x);
    }

    private static String counts(TypeStack x) {
        StringBuilder told = new StringBuilder("counts");
        for (int what = 0; what < 4; what++) {
            told.append(' ').append(x.count(what));
        }
        return told.toString();
    }

    /** The stack from the bottom, a digit each. */
    static String stack(TypeStack x) {
        StringBuilder told = new StringBuilder("[");
        for (int i = x.count(0) - 1; i >= 0; i--) {
            told.append(x.top(i));
        }
        return told.append(']').toString();
    }

    private static String framesOf(TypeStack x) {
        StringBuilder told = new StringBuilder();
        for (int l = 0; l < x.count(1); l++) {
            told.append(' ').append(frame(x, l));
        }
        return told.toString();
    }

    /** Of one label, in this order: kind, what it takes and leaves, floor, dead, what it wants. */
    static String frame(TypeStack x, int l) {
        StringBuilder told = new StringBuilder("(");
        for (int what = 0; what < 6; what++) {
            told.append(what == 0 ? "" : ",").append(asked(x, l, what));
        }
        return told.append(')').toString();
    }

    private static String asked(TypeStack x, int l, int what) {
        try {
            return Integer.toString(x.frame(l, what));
        } catch (NoSuchElementException e) {
            return "none";
        }
    }

    /** Tells how it went; a test's main ends with this. */
    void finish() {
        System.out.println(wrong == 0
                ? "all " + looked + " answers are as due"
                : wrong + " of " + looked + " answers are not as due");
        if (wrong != 0) {
            System.exit(1);
        }
    }
}
