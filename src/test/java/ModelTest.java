/**
 * Long runs of calls, each asked of the program and of the model. The runs are the same every time:
 * their choices come from a counter that is stirred, not from a random source.
 */
public final class ModelTest {
    private static final int RUNS = 3000;
    /** The document promises nothing behind an object's 512th call. */
    private static final int CALLS = 512;
    private static final int FULL_LIST = 3906;
    private static final int[] ODD_NUMBERS = {
        -1, 3, 4, 5, 6, 7, 10, 25, 30, 41, 299, 300, 15625, 19531, Integer.MIN_VALUE, Integer.MAX_VALUE};
    private static final int[] ODD_LISTS = {-1, 5, 10, 26, 15625, 19531, Integer.MIN_VALUE, Integer.MAX_VALUE};

    private final Check check;
    private final TypeStack program = new TypeStack();
    private final Model model = new Model();
    private final int oddness;
    private long stirred;
    private int calls = 0;

    private ModelTest(Check check, int run) {
        this.check = check;
        this.stirred = run * 7919L + 17;
        this.oddness = run % 3 == 0 ? 12 : 40;
        check.part("run " + run);
    }

    public static void main(String[] args) {
        Check check = new Check();
        for (int run = 0; run < RUNS; run++) {
            new ModelTest(check, run).run(run % 6);
        }
        check.finish();
    }

    private void run(int manner) {
        if (manner == 1 || manner == 2) {
            fillStack();
        }
        if (manner == 2 || manner == 3) {
            fillFrames();
        }
        int length = manner == 5 ? 40 : CALLS;
        for (int i = 0; i < length && calls < CALLS; i++) {
            step();
            look();
        }
        lookAtAll();
    }

    private int below(int bound) {
        stirred = stirred * 6364136223846793005L + 1442695040888963407L;
        return (int) ((stirred >>> 33) % bound);
    }

    private void fillStack() {
        for (int i = 0; i < 49; i++) {
            ask("apply", 0, FULL_LIST, 0);
        }
    }

    private void fillFrames() {
        for (int i = 0; i < 36; i++) {
            ask("block", below(2), 0, below(3));
        }
    }

    private void step() {
        int choice = below(100);
        if (choice < 22) {
            ask("apply", someList(), someList(), 0);
        } else if (choice < 34) {
            ask("apply", 0, someList(), 0);
        } else if (choice < 40) {
            ask("drop", 0, 0, 0);
        } else if (choice < 46) {
            ask("select", 0, 0, 0);
        } else if (choice < 60) {
            ask("block", someKind(), someList(), someList());
        } else if (choice < 65) {
            ask("otherwise", 0, 0, 0);
        } else if (choice < 77) {
            ask("end", 0, 0, 0);
        } else if (choice < 81) {
            ask("leap", someLabel(), 0, 0);
        } else if (choice < 87) {
            ask("leapIf", someLabel(), 0, 0);
        } else if (choice < 92) {
            ask("table", someLabel(), someLabel(), 0);
        } else if (choice < 94) {
            ask("back", 0, 0, 0);
        } else if (choice < 99) {
            ask("never", 0, 0, 0);
        } else if (model.count(1) == 0 || below(4) == 0) {
            ask("begin", someList(), 0, 0);
        }
        if (model.count(1) == 0 && below(3) == 0) {
            ask("begin", someList(), 0, 0);
        }
    }

    private void look() {
        ask("count", below(4), 0, 0);
        switch (below(8)) {
            case 0 -> ask("top", 0, 0, 0);
            case 1 -> ask("top", below(model.count(0) + 2), 0, 0);
            case 2 -> ask("frame", 0, below(6), 0);
            case 3 -> ask("frame", someLabel(), odd() ? oddNumber() : below(6), 0);
            case 4 -> ask(below(2) == 0 ? "top" : "count", oddNumber(), 0, 0);
            default -> { }
        }
    }

    private void lookAtAll() {
        for (int what = 0; what < 4; what++) {
            ask("count", what, 0, 0);
        }
        for (int i = 0; i < model.count(0); i++) {
            ask("top", i, 0, 0);
        }
        for (int l = 0; l < model.count(1); l++) {
            for (int what = 0; what < 6; what++) {
                ask("frame", l, what, 0);
            }
        }
    }

    private boolean odd() {
        return below(oddness) == 0;
    }

    private int oddNumber() {
        return ODD_NUMBERS[below(ODD_NUMBERS.length)];
    }

    private int someKind() {
        return odd() ? oddNumber() : below(3);
    }

    private int someLabel() {
        return odd() ? oddNumber() : below(Math.min(4, model.count(1) + 1));
    }

    /** Mostly short lists, and often what lies on the stack, so that most instructions can be. */
    private int someList() {
        if (odd()) {
            return ODD_LISTS[below(ODD_LISTS.length)];
        }
        int choice = below(10);
        if (choice < 3) {
            return 0;
        }
        if (choice < 6) {
            return listFromStack(below(3) + 1);
        }
        return listOfSize(choice < 9 ? below(2) + 1 : below(6) + 1);
    }

    private int listFromStack(int size) {
        int list = 0;
        for (int i = Math.min(size, model.count(0)) - 1; i >= 0; i--) {
            list = list * 5 + Math.max(1, model.top(i));
        }
        return list;
    }

    private int listOfSize(int size) {
        int list = 0;
        for (int i = 0; i < size; i++) {
            list = list * 5 + (below(2) == 0 ? 1 : below(4) + 1);
        }
        return list;
    }

    private void ask(String name, int a, int b, int c) {
        if (calls >= CALLS) {
            return;
        }
        calls++;
        String told = "call " + calls + " " + name + "(" + a + ", " + b + ", " + c + ")";
        check.due(told, ofProgram(name, a, b, c), ofModel(name, a, b, c));
    }

    private String ofProgram(String name, int a, int b, int c) {
        return switch (name) {
            case "begin" -> Check.outcome(() -> program.begin(a));
            case "apply" -> Check.outcome((Check.Call) () -> program.apply(a, b));
            case "drop" -> Check.outcome((Check.Call) program::drop);
            case "select" -> Check.outcome((Check.Call) program::select);
            case "block" -> Check.outcome((Check.Call) () -> program.block(a, b, c));
            case "otherwise" -> Check.outcome(program::otherwise);
            case "end" -> Check.outcome((Check.Call) program::end);
            case "leap" -> Check.outcome(() -> program.leap(a));
            case "leapIf" -> Check.outcome((Check.Call) () -> program.leapIf(a));
            case "table" -> Check.outcome(() -> program.table(a, b));
            case "back" -> Check.outcome(program::back);
            case "never" -> Check.outcome(program::never);
            case "top" -> Check.outcome((Check.Call) () -> program.top(a));
            case "frame" -> Check.outcome((Check.Call) () -> program.frame(a, b));
            default -> Check.outcome((Check.Call) () -> program.count(a));
        };
    }

    private String ofModel(String name, int a, int b, int c) {
        return switch (name) {
            case "begin" -> Check.outcome(() -> model.begin(a));
            case "apply" -> Check.outcome((Check.Call) () -> model.apply(a, b));
            case "drop" -> Check.outcome((Check.Call) model::drop);
            case "select" -> Check.outcome((Check.Call) model::select);
            case "block" -> Check.outcome((Check.Call) () -> model.block(a, b, c));
            case "otherwise" -> Check.outcome(model::otherwise);
            case "end" -> Check.outcome((Check.Call) model::end);
            case "leap" -> Check.outcome(() -> model.leap(a));
            case "leapIf" -> Check.outcome((Check.Call) () -> model.leapIf(a));
            case "table" -> Check.outcome(() -> model.table(a, b));
            case "back" -> Check.outcome(model::back);
            case "never" -> Check.outcome(model::never);
            case "top" -> Check.outcome((Check.Call) () -> model.top(a));
            case "frame" -> Check.outcome((Check.Call) () -> model.frame(a, b));
            default -> Check.outcome((Check.Call) () -> model.count(a));
        };
    }
}
