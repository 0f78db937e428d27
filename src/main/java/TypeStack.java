import java.util.NoSuchElementException;

/**
 * Code for a stack, looked over instruction by instruction before it is ever run.
 *
 * Every instruction first works out, without touching the state, at which height of the stack its
 * takings would end; it changes the state only behind its last check. So whatever throws leaves
 * all as it was.
 */
public final class TypeStack {
    private static final int ANY = 0;
    private static final int CONDITION = 1;
    private static final int NEVER_SELECTED = 4;

    private static final int NOTHING = 0;
    private static final int LIST_BASE = 5;
    private static final int LIST_LIMIT = 6;
    // 5 to the power of 6: the least number with more digits than a list may have.
    private static final int LIST_NUMBERS = 15625;

    private static final int STACK_LIMIT = 300;
    private static final int FRAME_LIMIT = 40;

    private static final int BLOCK = 0;
    private static final int LOOP = 1;
    private static final int IF = 2;
    private static final int ELSE = 3;

    private final int[] types = new int[STACK_LIMIT];
    private int height;
    private int greatestHeight;

    // One row for each property of a frame, the outermost frame at index 0.
    private final int[] kinds = new int[FRAME_LIMIT];
    private final int[] takenLists = new int[FRAME_LIMIT];
    private final int[] leftLists = new int[FRAME_LIMIT];
    private final int[] floors = new int[FRAME_LIMIT];
    private final boolean[] dead = new boolean[FRAME_LIMIT];
    private int frames;

    private int instructions;

    public TypeStack() {
        startAnew(NOTHING);
    }

    public void begin(int out) throws IllegalArgumentException {
        requireList(out);
        startAnew(out);
    }

    public int apply(int in, int out)
            throws IllegalArgumentException, NoSuchElementException, IllegalStateException, ArithmeticException {
        requireList(in);
        requireList(out);
        requireFrame();
        int rest = heightBelowList(height, in);
        requireRoom(rest + sizeOf(out));
        putList(rest, out);
        instructions++;
        return height;
    }

    public int drop() throws NoSuchElementException, IllegalStateException {
        requireFrame();
        int rest = heightBelowOne(height);
        int dropped = typeToTake(height);
        height = rest;
        instructions++;
        return dropped;
    }

    public int select()
            throws NoSuchElementException, IllegalStateException, UnsupportedOperationException, ArithmeticException {
        requireFrame();
        int belowCondition = heightBelowType(height, CONDITION);
        int belowUpper = heightBelowOne(belowCondition);
        int rest = heightBelowOne(belowUpper);
        int selected = commonType(typeToTake(belowCondition), typeToTake(belowUpper));
        requireRoom(rest + 1);
        types[rest] = selected;
        riseTo(rest + 1);
        instructions++;
        return selected;
    }

    public int block(int kind, int in, int out)
            throws IllegalArgumentException, NoSuchElementException, IllegalStateException, ArithmeticException {
        if (kind != BLOCK && kind != LOOP && kind != IF) {
            throw new IllegalArgumentException();
        }
        requireList(in);
        requireList(out);
        requireFrame();
        int belowCondition = kind == IF ? heightBelowType(height, CONDITION) : height;
        int floor = heightBelowList(belowCondition, in);
        requireRoom(floor + sizeOf(in));
        if (frames >= FRAME_LIMIT) {
            throw new ArithmeticException();
        }
        addFrame(kind, in, out, floor);
        putList(floor, in);
        instructions++;
        return frames;
    }

    public void otherwise() throws NoSuchElementException, UnsupportedOperationException, IllegalStateException {
        requireFrame();
        int inner = frames - 1;
        if (kinds[inner] != IF) {
            throw new UnsupportedOperationException();
        }
        requireJustWhatIsLeft();
        kinds[inner] = ELSE;
        dead[inner] = false;
        // There is room: the same list lay on the same floor when the frame began.
        putList(floors[inner], takenLists[inner]);
        instructions++;
    }

    public int end()
            throws NoSuchElementException, UnsupportedOperationException, IllegalStateException, ArithmeticException {
        requireFrame();
        int inner = frames - 1;
        if (kinds[inner] == IF && takenLists[inner] != leftLists[inner]) {
            throw new UnsupportedOperationException();
        }
        requireJustWhatIsLeft();
        requireRoom(floors[inner] + sizeOf(leftLists[inner]));
        putList(floors[inner], leftLists[inner]);
        frames = inner;
        instructions++;
        return frames;
    }

    public void leap(int l) throws NoSuchElementException, IllegalStateException {
        int wanted = wantedBy(frameOfLabel(l));
        heightBelowList(height, wanted);
        die();
        instructions++;
    }

    public int leapIf(int l) throws NoSuchElementException, IllegalStateException, ArithmeticException {
        int wanted = wantedBy(frameOfLabel(l));
        int rest = heightBelowList(heightBelowType(height, CONDITION), wanted);
        requireRoom(rest + sizeOf(wanted));
        putList(rest, wanted);
        instructions++;
        return height;
    }

    public void table(int l, int m)
            throws NoSuchElementException, UnsupportedOperationException, IllegalStateException {
        int wantedByL = wantedBy(frameOfLabel(l));
        int wantedByM = wantedBy(frameOfLabel(m));
        if (sizeOf(wantedByL) != sizeOf(wantedByM)) {
            throw new UnsupportedOperationException();
        }
        int belowCondition = heightBelowType(height, CONDITION);
        heightBelowList(belowCondition, wantedByL);
        heightBelowList(belowCondition, wantedByM);
        die();
        instructions++;
    }

    public void back() throws NoSuchElementException, IllegalStateException {
        requireFrame();
        heightBelowList(height, leftLists[0]);
        die();
        instructions++;
    }

    public void never() throws NoSuchElementException {
        requireFrame();
        die();
        instructions++;
    }

    public int top(int i) {
        if (i < 0 || i >= height) {
            return -1;
        }
        return types[height - 1 - i];
    }

    public int frame(int l, int what) throws NoSuchElementException, IllegalArgumentException {
        int at = frameOfLabel(l);
        switch (what) {
            case 0:
                return kinds[at];
            case 1:
                return takenLists[at];
            case 2:
                return leftLists[at];
            case 3:
                return floors[at];
            case 4:
                return dead[at] ? 1 : 0;
            case 5:
                return wantedBy(at);
            default:
                throw new IllegalArgumentException();
        }
    }

    public int count(int what) {
        switch (what) {
            case 0:
                return height;
            case 1:
                return frames;
            case 2:
                return greatestHeight;
            case 3:
                return instructions;
            default:
                return -1;
        }
    }

    private void startAnew(int out) {
        height = 0;
        greatestHeight = 0;
        frames = 0;
        instructions = 0;
        addFrame(BLOCK, NOTHING, out, 0);
    }

    private void addFrame(int kind, int in, int out, int floor) {
        kinds[frames] = kind;
        takenLists[frames] = in;
        leftLists[frames] = out;
        floors[frames] = floor;
        dead[frames] = false;
        frames++;
    }

    private static void requireList(int number) {
        if (!isList(number)) {
            throw new IllegalArgumentException();
        }
    }

    private static boolean isList(int number) {
        if (number < 0 || number >= LIST_NUMBERS) {
            return false;
        }
        int digits = number;
        for (int i = 0; i < LIST_LIMIT && digits > 0; i++) {
            if (digits % LIST_BASE == 0) {
                return false;
            }
            digits /= LIST_BASE;
        }
        return true;
    }

    private static int sizeOf(int list) {
        int size = 0;
        int digits = list;
        for (int i = 0; i < LIST_LIMIT && digits > 0; i++) {
            digits /= LIST_BASE;
            size++;
        }
        return size;
    }

    private void requireFrame() {
        if (frames == 0) {
            throw new NoSuchElementException();
        }
    }

    private int frameOfLabel(int l) {
        if (l < 0 || l >= frames) {
            throw new NoSuchElementException();
        }
        return frames - 1 - l;
    }

    private int wantedBy(int at) {
        return kinds[at] == LOOP ? takenLists[at] : leftLists[at];
    }

    private static void requireRoom(int wantedHeight) {
        if (wantedHeight > STACK_LIMIT) {
            throw new ArithmeticException();
        }
    }

    private void requireJustWhatIsLeft() {
        int inner = frames - 1;
        if (heightBelowList(height, leftLists[inner]) > floors[inner]) {
            throw new IllegalStateException();
        }
    }

    /** What one would take at that height, if one can: a dead frame gives ANY from its floor. */
    private int typeToTake(int from) {
        return from > floors[frames - 1] ? types[from - 1] : ANY;
    }

    /** The height that is left when one has been taken at that height, whatever it is. */
    private int heightBelowOne(int from) {
        int inner = frames - 1;
        if (from > floors[inner]) {
            return from - 1;
        }
        if (!dead[inner]) {
            throw new IllegalStateException();
        }
        return from;
    }

    private int heightBelowType(int from, int type) {
        int found = typeToTake(from);
        if (found != type && found != ANY) {
            throw new IllegalStateException();
        }
        return heightBelowOne(from);
    }

    private int heightBelowList(int from, int list) {
        int rest = from;
        int digits = list;
        for (int i = 0; i < LIST_LIMIT && digits > 0; i++) {
            rest = heightBelowType(rest, digits % LIST_BASE);
            digits /= LIST_BASE;
        }
        return rest;
    }

    private static int commonType(int upper, int lower) {
        int common = upper == ANY ? lower : upper;
        boolean alike = lower == ANY || lower == common;
        if (!alike || common == NEVER_SELECTED) {
            throw new UnsupportedOperationException();
        }
        return common;
    }

    private void putList(int from, int list) {
        int size = sizeOf(list);
        int digits = list;
        for (int i = size - 1; i >= 0; i--) {
            types[from + i] = digits % LIST_BASE;
            digits /= LIST_BASE;
        }
        riseTo(from + size);
    }

    private void riseTo(int newHeight) {
        height = newHeight;
        greatestHeight = Math.max(greatestHeight, newHeight);
    }

    private void die() {
        int inner = frames - 1;
        height = floors[inner];
        dead[inner] = true;
    }
}
