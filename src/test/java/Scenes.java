import java.util.NoSuchElementException;

/**
 * What several tests begin from: lists, the classes that a call may throw, and objects in a given
 * state. A test extends it so that it can call these by their plain names.
 */
abstract class Scenes {
    static final Class<NoSuchElementException> NO_ELEMENT = NoSuchElementException.class;
    static final Class<IllegalArgumentException> ARGUMENT = IllegalArgumentException.class;
    static final Class<IllegalStateException> STATE = IllegalStateException.class;
    static final Class<ArithmeticException> TOO_MANY = ArithmeticException.class;
    static final Class<UnsupportedOperationException> UNSUPPORTED = UnsupportedOperationException.class;

    static final int BLOCK = 0;
    static final int LOOP = 1;
    static final int IF = 2;
    static final int ELSE = 3;

    static final int MIN = Integer.MIN_VALUE;
    static final int MAX = Integer.MAX_VALUE;

    static final int SIX_ONES = list(1, 1, 1, 1, 1, 1);

    /** No lists: below zero, with a digit 0, of seven digits. */
    static final int[] NO_LISTS = {MIN, -6, -1, 5, 10, 25, 26, 30, 3125, 3905, 15620, 15625, 19531, 78124, MAX};

    /** The digits of a list as the document writes it: list(1, 2) is 7. */
    static int list(int... types) {
        int number = 0;
        for (int type : types) {
            number = number * 5 + type;
        }
        return number;
    }

    static TypeStack begun(int out) {
        TypeStack x = new TypeStack();
        x.begin(out);
        return x;
    }

    static TypeStack holding(int... types) {
        return with(new TypeStack(), types);
    }

    /** That object, when those TYPES have been put upon what lies there. */
    static TypeStack with(TypeStack x, int... types) {
        for (int type : types) {
            x.apply(0, type);
        }
        return x;
    }

    static TypeStack dead(TypeStack x) {
        x.never();
        return x;
    }

    /** So many TYPES 1, in few calls. */
    static void putOnes(TypeStack x, int size) {
        for (int i = 0; i < size / 6; i++) {
            x.apply(0, SIX_ONES);
        }
        for (int i = 0; i < size % 6; i++) {
            x.apply(0, 1);
        }
    }

    /** The outermost frame leaves that list; so many TYPES 1 lie there. */
    static TypeStack ones(int size, int out) {
        TypeStack x = begun(out);
        putOnes(x, size);
        return x;
    }

    static TypeStack filled(int out) {
        return ones(300, out);
    }

    /** So many TYPES 1 below the floor of a block that leaves that list, with nothing in it. */
    static TypeStack fenced(int floor, int leaves) {
        TypeStack x = ones(floor, 0);
        x.block(BLOCK, 0, leaves);
        return x;
    }

    static TypeStack fencedAndDead(int floor, int leaves) {
        return dead(fenced(floor, leaves));
    }

    /** A full stack below the floor of a frame that is dead. */
    static TypeStack filledAndDead(int leaves) {
        return fencedAndDead(300, leaves);
    }

    /** So many frames, the outermost one among them, on an empty stack. */
    static TypeStack nested(int frames) {
        TypeStack x = new TypeStack();
        for (int i = 1; i < frames; i++) {
            x.block(BLOCK, 0, 0);
        }
        return x;
    }

    /** The outermost frame is over, and has left that list. */
    static TypeStack over(int out) {
        TypeStack x = begun(out);
        x.apply(0, out);
        x.end();
        return x;
    }

    /** An if with nothing below its floor: it takes that list, which lies there, and leaves the other. */
    static TypeStack inIf(int in, int out) {
        TypeStack x = new TypeStack();
        x.apply(0, in);
        x.apply(0, 1);
        x.block(IF, in, out);
        return x;
    }
}
