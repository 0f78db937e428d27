import java.util.ArrayList;
import java.util.List;
import java.util.NoSuchElementException;

/**
 * The document written a second time, as slowly as its words go: every instruction is done in full on
 * a copy, all that is wrong with it is gathered, and the first in the order of its line is thrown.
 */
final class Model {
    private static final class Frame {
        int kind;
        List<Integer> in = List.of();
        List<Integer> out = List.of();
        int floor;
        boolean dead;

        List<Integer> wants() {
            return kind == 1 ? in : out;
        }

        Frame copy() {
            Frame other = new Frame();
            other.kind = kind;
            other.in = in;
            other.out = out;
            other.floor = floor;
            other.dead = dead;
            return other;
        }
    }

    private boolean badArgument;
    private boolean noElement;
    private boolean badState;
    private boolean tooMany;
    private boolean unsupported;

    private List<Integer> stack = new ArrayList<>();
    private List<Frame> frames = new ArrayList<>();
    private List<Integer> oldStack;
    private List<Frame> oldFrames;
    private int most;
    private int done;

    Model() {
        begin(0);
    }

    void begin(int out) {
        List<Integer> leaves = list(out);
        if (leaves == null) {
            throw new IllegalArgumentException();
        }
        stack = new ArrayList<>();
        frames = new ArrayList<>();
        frames.add(newFrame(0, List.of(), leaves));
        most = 0;
        done = 0;
    }

    int apply(int in, int out) {
        open();
        List<Integer> taken = argument(in);
        List<Integer> put = argument(out);
        if (hasFrame()) {
            take(taken);
            stack.addAll(put);
        }
        close("ANSM");
        return stack.size();
    }

    int drop() {
        open();
        int dropped = hasFrame() ? takeAny() : 0;
        close("NS");
        return dropped;
    }

    int select() {
        open();
        int chosen = 0;
        if (hasFrame()) {
            take(List.of(1));
            int a = takeAny();
            int b = takeAny();
            unsupported = a != 0 && b != 0 && a != b || a == 4 || b == 4;
            chosen = Math.max(a, b);
            stack.add(chosen);
        }
        close("NSUM");
        return chosen;
    }

    int block(int kind, int in, int out) {
        open();
        badArgument = kind < 0 || kind > 2;
        List<Integer> taken = argument(in);
        List<Integer> left = argument(out);
        if (hasFrame()) {
            take(kind == 2 ? List.of(1) : List.of());
            take(taken);
            frames.add(newFrame(kind, taken, left));
            stack.addAll(taken);
        }
        close("ANSM");
        return frames.size();
    }

    void otherwise() {
        open();
        if (hasFrame()) {
            Frame frame = label(0);
            unsupported = frame.kind != 2;
            leaveFrame(frame);
            frame.kind = 3;
            frame.dead = false;
            stack.addAll(frame.in);
        }
        close("NUS");
    }

    int end() {
        open();
        if (hasFrame()) {
            Frame frame = label(0);
            unsupported = frame.kind == 2 && !frame.in.equals(frame.out);
            leaveFrame(frame);
            frames.remove(frames.size() - 1);
            stack.addAll(frame.out);
        }
        close("NUSM");
        return frames.size();
    }

    void leap(int l) {
        open();
        if (hasLabel(l)) {
            take(label(l).wants());
            die();
        }
        close("NS");
    }

    int leapIf(int l) {
        open();
        if (hasLabel(l)) {
            take(List.of(1));
            take(label(l).wants());
            stack.addAll(label(l).wants());
        }
        close("NSM");
        return stack.size();
    }

    void table(int l, int m) {
        open();
        if (hasLabel(l) && hasLabel(m)) {
            List<Integer> first = label(l).wants();
            List<Integer> second = label(m).wants();
            unsupported = first.size() != second.size();
            take(List.of(1));
            List<Integer> there = new ArrayList<>(stack);
            take(first);
            stack = there;
            take(second);
            die();
        }
        close("NUS");
    }

    void back() {
        open();
        if (hasFrame()) {
            take(frames.get(0).out);
            die();
        }
        close("NS");
    }

    void never() {
        open();
        if (hasFrame()) {
            die();
        }
        close("N");
    }

    int top(int i) {
        return i < 0 || i >= stack.size() ? -1 : stack.get(stack.size() - 1 - i);
    }

    int frame(int l, int what) {
        if (l < 0 || l >= frames.size()) {
            throw new NoSuchElementException();
        }
        Frame frame = label(l);
        switch (what) {
            case 0: return frame.kind;
            case 1: return number(frame.in);
            case 2: return number(frame.out);
            case 3: return frame.floor;
            case 4: return frame.dead ? 1 : 0;
            case 5: return number(frame.wants());
            default: throw new IllegalArgumentException();
        }
    }

    int count(int what) {
        int[] counts = {stack.size(), frames.size(), most, done};
        return what < 0 || what > 3 ? -1 : counts[what];
    }

    private void open() {
        badArgument = false;
        noElement = false;
        badState = false;
        tooMany = false;
        unsupported = false;
        oldStack = new ArrayList<>(stack);
        oldFrames = new ArrayList<>();
        for (Frame frame : frames) {
            oldFrames.add(frame.copy());
        }
    }

    /** The line's exceptions, a letter each, in its order. */
    private void close(String line) {
        tooMany = stack.size() > 300 || frames.size() > 40;
        if (badArgument || noElement || badState || tooMany || unsupported) {
            stack = oldStack;
            frames = oldFrames;
            throwFirst(line);
            throw new AssertionError("what is wrong is not in the line " + line);
        }
        most = Math.max(most, stack.size());
        done++;
    }

    private void throwFirst(String line) {
        for (char kind : line.toCharArray()) {
            if (kind == 'A' && badArgument) {
                throw new IllegalArgumentException();
            }
            if (kind == 'N' && noElement) {
                throw new NoSuchElementException();
            }
            if (kind == 'S' && badState) {
                throw new IllegalStateException();
            }
            if (kind == 'M' && tooMany) {
                throw new ArithmeticException();
            }
            if (kind == 'U' && unsupported) {
                throw new UnsupportedOperationException();
            }
        }
    }

    private boolean hasFrame() {
        return hasLabel(0);
    }

    private boolean hasLabel(int l) {
        boolean has = l >= 0 && l < frames.size();
        noElement |= !has;
        return has;
    }

    private Frame label(int l) {
        return frames.get(frames.size() - 1 - l);
    }

    private Frame newFrame(int kind, List<Integer> in, List<Integer> out) {
        Frame frame = new Frame();
        frame.kind = kind;
        frame.in = in;
        frame.out = out;
        frame.floor = stack.size();
        return frame;
    }

    private int takeAny() {
        if (stack.size() > label(0).floor) {
            return stack.remove(stack.size() - 1);
        }
        badState |= !label(0).dead;
        return 0;
    }

    private void take(List<Integer> types) {
        for (int i = types.size() - 1; i >= 0; i--) {
            int found = takeAny();
            badState |= found != 0 && found != types.get(i);
        }
    }

    private void leaveFrame(Frame frame) {
        take(frame.out);
        badState |= stack.size() != frame.floor;
    }

    private void die() {
        while (stack.size() > label(0).floor) {
            stack.remove(stack.size() - 1);
        }
        label(0).dead = true;
    }

    private List<Integer> argument(int number) {
        List<Integer> types = list(number);
        badArgument |= types == null;
        return types == null ? List.of() : types;
    }

    private static List<Integer> list(int number) {
        String digits = Integer.toString(number, 5);
        if (number != 0 && !digits.matches("[1-4]{1,6}")) {
            return null;
        }
        List<Integer> types = new ArrayList<>();
        for (int i = 0; number != 0 && i < digits.length(); i++) {
            types.add(digits.charAt(i) - '0');
        }
        return types;
    }

    private static int number(List<Integer> types) {
        int number = 0;
        for (int type : types) {
            number = number * 5 + type;
        }
        return number;
    }
}
