/**
 * Promises 9 to 16, as PromiseEdgesTest does 1 to 8: each sentence of theirs that names a boundary has a
 * test of its own here, which bears the sentence's words.
 */
public final class LeapEdgesTest extends Scenes {
    private static final Check check = new Check();

    public static void main(String[] args) {
        leapTakesWhatIsWanted();
        leapDies();
        leapIfTakesTypeOneFirst();
        leapIfPutsWhatIsWanted();
        leapIfAnswers();
        tableTakesTypeOne();
        tableWantsAsMany();
        tableCouldTakeEach();
        tableDies();
        backTakesWhatTheOutermostLeaves();
        backDies();
        never();
        topOfNone();
        topOfFull();
        topSeesAll();
        topOfAny();
        frameOfLabel();
        frameOfEachKind();
        anotherWhat();
        countOnTheStack();
        countFrames();
        countMost();
        countInstructions();
        elseMinusOne();
        beginAndWhatThrowsAreNone();
        check.finish();
    }

    private static void stack(TypeStack x, String want) {
        check.due("the stack", Check.stack(x), "[" + want + "]");
    }

    private static void frame(TypeStack x, int l, String want) {
        check.due("frame " + l, Check.frame(x, l), "(" + want + ")");
    }

    /** The outermost frame leaves 2 3; within it a block that leaves 3, on a floor of one. */
    private static TypeStack within() {
        TypeStack x = begun(list(2, 3));
        x.apply(0, 4);
        x.block(BLOCK, 0, 3);
        return x;
    }

    private static void leapTakesWhatIsWanted() {
        check.part("9: What LABEL l WANTS is taken");
        check.fine("leap(0) with just that", () -> with(within(), 3), x -> x.leap(0));
        check.fine("leap(1) with just that", () -> with(within(), 2, 3), x -> x.leap(1));
        check.fine("leap(0) with more below it", () -> with(within(), 1, 3), x -> x.leap(0));
        check.refused("leap(0) with nothing", STATE, LeapEdgesTest::within, x -> x.leap(0));
        check.refused("leap(0) with another", STATE, () -> with(within(), 3, 2), x -> x.leap(0));
        check.refused("leap(1) with half of it", STATE, () -> with(within(), 3), x -> x.leap(1));
        check.refused("leap(2)", NO_ELEMENT, () -> with(within(), 2, 3), x -> x.leap(2));
        check.fine("leap(1) with nothing in dead code", () -> dead(within()), x -> x.leap(1));
        check.fine("leap(1) with half of it in dead code", () -> with(dead(within()), 3), x -> x.leap(1));
        check.refused("leap(1) with its first in dead code", STATE, () -> with(dead(within()), 2), x -> x.leap(1));
        check.fine("leap(0) of a new object", TypeStack::new, x -> x.leap(0));
    }

    private static void leapDies() {
        check.part("9: TO DIE");
        TypeStack x = with(within(), 1, 2, 3);
        check.fine("leap(1)", () -> x.leap(1));
        stack(x, "4");
        frame(x, 0, "0,0,3,1,1,3");
        frame(x, 1, "0,0,13,0,0,13");
    }

    private static void leapIfTakesTypeOneFirst() {
        check.part("10: A TYPE 1 is taken, then what LABEL l WANTS");
        check.answers("leapIf(0) with just that", 2, () -> with(within(), 3, 1), x -> x.leapIf(0));
        check.refused("leapIf(0) in another order", STATE, () -> with(within(), 1, 3), x -> x.leapIf(0));
        check.refused("leapIf(0) with the TYPE 1 alone", STATE, () -> with(within(), 1), x -> x.leapIf(0));
        check.refused("leapIf(0) without the TYPE 1", STATE, () -> with(within(), 3), x -> x.leapIf(0));
        check.refused("leapIf(1) with half of it", STATE, () -> with(within(), 3, 1), x -> x.leapIf(1));
        check.refused("leapIf(2)", NO_ELEMENT, () -> with(within(), 3, 1), x -> x.leapIf(2));
        check.refused("leapIf(0) of a 1 below the floor", STATE, () -> fenced(2, 0), x -> x.leapIf(0));
        check.answers("leapIf(0) that WANTS nothing", 0, () -> holding(1), x -> x.leapIf(0));
    }

    private static void leapIfPutsWhatIsWanted() {
        check.part("10: and that is put");
        TypeStack x = with(within(), 1, 2, 3, 1);
        check.due("leapIf(1)", 4, () -> x.leapIf(1));
        stack(x, "4123");
        frame(x, 0, "0,0,3,1,0,3");
        TypeStack gone = dead(within());
        check.due("leapIf(1) with nothing in dead code", 3, () -> gone.leapIf(1));
        stack(gone, "423");
        frame(gone, 0, "0,0,3,1,1,3");
        TypeStack any = dead(within());
        any.select();
        any.apply(0, 1);
        check.due("leapIf(0) with an ANY", 2, () -> any.leapIf(0));
        stack(any, "43");
    }

    private static void leapIfAnswers() {
        check.part("10: Answers how many are on THE STACK");
        check.answers("leapIf(0) of one", 0, () -> holding(1), x -> x.leapIf(0));
        check.answers("leapIf(0) of 300", 299, () -> filled(0), x -> x.leapIf(0));
        check.answers("leapIf(0) on a floor of 299", 299, () -> with(fenced(299, 0), 1), x -> x.leapIf(0));
        check.answers("leapIf(0) in dead code on 299", 300, () -> fencedAndDead(299, 1), x -> x.leapIf(0));
    }

    private static void tableTakesTypeOne() {
        check.part("11: A TYPE 1 is taken");
        check.fine("table(0, 0) of a 1", () -> holding(1), x -> x.table(0, 0));
        check.refused("table(0, 0) of a 2", STATE, () -> holding(2), x -> x.table(0, 0));
        check.refused("table(0, 0) of none", STATE, TypeStack::new, x -> x.table(0, 0));
        check.refused("table(0, 0) of a 1 below the floor", STATE, () -> fenced(1, 0), x -> x.table(0, 0));
        check.refused("table(0, 0) of the one 1 that is WANTED too", STATE,
                () -> with(begun(1), 1), x -> x.table(0, 0));
        check.fine("table(0, 0) of nothing in dead code", () -> fencedAndDead(1, 2), x -> x.table(0, 0));
        check.fine("table(0, 0) of an ANY", () -> {
            TypeStack x = fencedAndDead(1, 2);
            x.select();
            return x;
        }, x -> x.table(0, 0));
    }

    private static void tableWantsAsMany() {
        check.part("11: what LABELS l and m WANT must be as many (UnsupportedOperationException)");
        check.refused("table(0, 1) of one and two", UNSUPPORTED, () -> with(within(), 2, 3, 1), x -> x.table(0, 1));
        check.refused("table(1, 0) of two and one", UNSUPPORTED, () -> with(within(), 2, 3, 1), x -> x.table(1, 0));
        check.refused("table(0, 1) in dead code", UNSUPPORTED, () -> dead(within()), x -> x.table(0, 1));
        check.refused("table(0, 1) of none and one", UNSUPPORTED, () -> {
            TypeStack x = begun(1);
            x.block(BLOCK, 0, 0);
            return with(x, 1, 1);
        }, x -> x.table(0, 1));
        check.fine("table(0, 1) of none and none", () -> with(nested(2), 1), x -> x.table(0, 1));
        check.fine("table(0, 0) and table(1, 1)", () -> with(within(), 2, 3, 1), x -> {
            x.table(1, 1);
            x.table(0, 0);
        });
        check.fine("table(0, 1) of what a loop takes, not of what it leaves", () -> {
            TypeStack x = with(begun(2), 2);
            x.block(LOOP, 2, list(3, 3));
            return with(x, 1);
        }, x -> x.table(0, 1));
    }

    /** The outermost frame leaves 2, the block within it leaves 3. */
    private static TypeStack twoOrThree() {
        TypeStack x = begun(2);
        x.block(BLOCK, 0, 3);
        return x;
    }

    private static void tableCouldTakeEach() {
        check.part("11: and could be taken each from what is there");
        check.refused("table(0, 1) of a 3: m can't", STATE, () -> with(twoOrThree(), 3, 1), x -> x.table(0, 1));
        check.refused("table(1, 0) of a 3: l can't", STATE, () -> with(twoOrThree(), 3, 1), x -> x.table(1, 0));
        check.refused("table(0, 1) of a 2: l can't", STATE, () -> with(twoOrThree(), 2, 1), x -> x.table(0, 1));
        check.refused("table(0, 1) of 2 3, one behind the other", STATE,
                () -> with(twoOrThree(), 2, 3, 1), x -> x.table(0, 1));
        check.fine("table(0, 0) of a 3", () -> with(twoOrThree(), 3, 1), x -> x.table(0, 0));
        check.fine("table(0, 1) of nothing in dead code", () -> dead(twoOrThree()), x -> x.table(0, 1));
        check.fine("table(0, 1) of an ANY", () -> {
            TypeStack x = dead(twoOrThree());
            x.select();
            return with(x, 1);
        }, x -> x.table(0, 1));
        check.refused("table(0, 1) of a 3 in dead code", STATE,
                () -> with(dead(twoOrThree()), 3, 1), x -> x.table(0, 1));
        check.fine("table(0, 1) of one that both WANT", () -> {
            TypeStack x = begun(2);
            x.block(BLOCK, 0, 2);
            return with(x, 2, 1);
        }, x -> x.table(0, 1));
    }

    private static void tableDies() {
        check.part("11: what m WANTS is taken; TO DIE");
        TypeStack x = with(within(), 1, 2, 3, 1);
        check.fine("table(1, 1)", () -> x.table(1, 1));
        stack(x, "4");
        frame(x, 0, "0,0,3,1,1,3");
        frame(x, 1, "0,0,13,0,0,13");
    }

    private static void backTakesWhatTheOutermostLeaves() {
        check.part("12: What the outermost FRAME leaves is taken");
        check.fine("back() with just that", () -> with(begun(list(2, 3)), 2, 3), x -> x.back());
        check.fine("back() of an outermost that leaves nothing", TypeStack::new, x -> x.back());
        check.fine("back() from within", () -> with(within(), 2, 3), x -> x.back());
        check.fine("back() with more below it", () -> with(within(), 1, 2, 3), x -> x.back());
        check.refused("back() with what the innermost leaves", STATE, () -> with(within(), 3), x -> x.back());
        check.refused("back() with nothing", STATE, () -> begun(1), x -> x.back());
        check.refused("back() in another order", STATE, () -> with(begun(list(2, 3)), 3, 2), x -> x.back());
        check.refused("back() with what lies below the floor", STATE, () -> {
            TypeStack x = with(begun(2), 2);
            x.block(BLOCK, 0, 0);
            return x;
        }, x -> x.back());
        check.fine("back() with nothing in dead code", () -> dead(within()), x -> x.back());
        check.fine("back() with half of it in dead code", () -> with(dead(within()), 3), x -> x.back());
        check.refused("back() with its first in dead code", STATE, () -> with(dead(within()), 2), x -> x.back());
        check.fine("back() from the 40th FRAME", () -> nested(40), x -> x.back());
    }

    private static void backDies() {
        check.part("12: TO DIE");
        TypeStack x = with(within(), 1, 2, 3);
        check.fine("back()", x::back);
        stack(x, "4");
        frame(x, 0, "0,0,3,1,1,3");
        frame(x, 1, "0,0,13,0,0,13");
    }

    private static void never() {
        check.part("13: TO DIE");
        check.fine("never() of a new object", TypeStack::new, x -> x.never());
        check.fine("never() in dead code", () -> fencedAndDead(1, 1), x -> x.never());
        check.fine("never() in the 40th FRAME", () -> nested(40), x -> x.never());
        check.fine("never() on 300", () -> filled(1), x -> x.never());
        TypeStack x = with(within(), 1, 1);
        check.fine("never()", x::never);
        stack(x, "4");
        frame(x, 0, "0,0,3,1,1,3");
        frame(x, 1, "0,0,13,0,0,13");
    }

    private static void topOfNone() {
        check.part("14: -1: none does");
        int[] all = {MIN, MIN + 1, -301, -300, -2, -1, 0, 1, 299, 300, MAX - 1, MAX};
        for (int i : all) {
            check.answers("top(" + i + ") of none", -1, TypeStack::new, x -> x.top(i));
        }
        int[] beyond = {MIN, MIN + 1, -301, -2, -1, 2, 3, 300, MAX - 1, MAX};
        for (int i : beyond) {
            check.answers("top(" + i + ") of two", -1, () -> holding(3, 4), x -> x.top(i));
        }
        check.answers("top(1) when one of two has gone", -1, () -> {
            TypeStack x = holding(3, 4);
            x.drop();
            return x;
        }, x -> x.top(1));
        check.answers("top(0) behind begin", -1, () -> {
            TypeStack x = holding(3, 4);
            x.begin(0);
            return x;
        }, x -> x.top(0));
    }

    private static void topOfFull() {
        check.part("14: The TYPE that lies i below the top (0: the top)");
        check.answers("top(0) of two", 4, () -> holding(3, 4), x -> x.top(0));
        check.answers("top(1) of two", 3, () -> holding(3, 4), x -> x.top(1));
        Check.Scene full = () -> {
            TypeStack x = holding(3);
            putOnes(x, 298);
            return with(x, 2);
        };
        check.answers("top(0) of 300", 2, full, x -> x.top(0));
        check.answers("top(1) of 300", 1, full, x -> x.top(1));
        check.answers("top(298) of 300", 1, full, x -> x.top(298));
        check.answers("top(299) of 300", 3, full, x -> x.top(299));
        check.answers("top(300) of 300", -1, full, x -> x.top(300));
        check.answers("top(-1) of 300", -1, full, x -> x.top(-1));
    }

    private static void topSeesAll() {
        check.part("14: below the FLOOR too");
        TypeStack x = holding(3, 4);
        x.block(BLOCK, 0, 0);
        check.due("top(0)", 4, () -> x.top(0));
        x.never();
        check.due("top(0) in dead code", 4, () -> x.top(0));
        check.due("top(1) in dead code", 3, () -> x.top(1));
        check.due("top(2) in dead code", -1, () -> x.top(2));
    }

    private static void topOfAny() {
        check.part("14: 0 for ANY");
        TypeStack x = fencedAndDead(1, 0);
        x.select();
        x.apply(0, 3);
        check.due("top(0)", 3, () -> x.top(0));
        check.due("top(1)", 0, () -> x.top(1));
        check.due("top(2)", 1, () -> x.top(2));
        check.due("top(3)", -1, () -> x.top(3));
    }

    private static void frameOfLabel() {
        check.part("15: Of LABEL l");
        TypeStack x = within();
        frame(x, 0, "0,0,3,1,0,3");
        frame(x, 1, "0,0,13,0,0,13");
        int[] wrong = {MIN, -2, -1, 2, 3, 40, MAX};
        for (int l : wrong) {
            for (int what = 0; what <= 5; what++) {
                int asked = what;
                check.refused("frame(" + l + ", " + what + ")", NO_ELEMENT,
                        LeapEdgesTest::within, y -> y.frame(l, asked));
            }
        }
        check.refused("frame(0, 0) of none", NO_ELEMENT, () -> over(0), y -> y.frame(0, 0));
    }

    private static void frameOfEachKind() {
        check.part("15: what 0 KIND, 1 what it takes, 2 what it leaves, 3 FLOOR, 4 whether it is DEAD (1), 5 WANTS");
        TypeStack block = holding(4, 2);
        block.block(BLOCK, 2, list(3, 1));
        frame(block, 0, "0,2,16,1,0,16");
        TypeStack loop = holding(4, 2);
        loop.block(LOOP, 2, list(3, 1));
        frame(loop, 0, "1,2,16,1,0,2");
        TypeStack branch = holding(4, 2, 1);
        branch.block(IF, 2, list(3, 1));
        frame(branch, 0, "2,2,16,1,0,16");
        branch.never();
        frame(branch, 0, "2,2,16,1,1,16");
        branch.otherwise();
        frame(branch, 0, "3,2,16,1,0,16");
        branch.never();
        frame(branch, 0, "3,2,16,1,1,16");
        TypeStack greatest = dead(begun(15624));
        greatest.block(LOOP, 15624, 3906);
        frame(greatest, 0, "1,15624,3906,0,0,15624");
        frame(greatest, 1, "0,0,15624,0,1,15624");
    }

    private static void anotherWhat() {
        check.part("15: IllegalArgumentException: another what");
        int[] wrong = {MIN, -5, -1, 6, 7, MAX};
        for (int what : wrong) {
            check.refused("frame(0, " + what + ")", ARGUMENT, LeapEdgesTest::within, x -> x.frame(0, what));
            check.refused("frame(1, " + what + ")", ARGUMENT, LeapEdgesTest::within, x -> x.frame(1, what));
        }
    }

    private static void countOnTheStack() {
        check.part("16: 0 on THE STACK");
        check.answers("count(0) of none", 0, TypeStack::new, x -> x.count(0));
        check.answers("count(0) of 300", 300, () -> filled(0), x -> x.count(0));
        check.answers("count(0) above a floor", 4, () -> with(fenced(3, 0), 2), x -> x.count(0));
        check.answers("count(0) behind the end", 2, () -> over(list(2, 3)), x -> x.count(0));
    }

    private static void countFrames() {
        check.part("16: 1 FRAMES");
        check.answers("count(1) of a new object", 1, TypeStack::new, x -> x.count(1));
        check.answers("count(1) of 40", 40, () -> nested(40), x -> x.count(1));
        check.answers("count(1) behind the end", 0, () -> over(0), x -> x.count(1));
        check.answers("count(1) of an else", 2, () -> {
            TypeStack x = inIf(0, 0);
            x.otherwise();
            return x;
        }, x -> x.count(1));
    }

    private static void countMost() {
        check.part("16: 2 the most that were ever on THE STACK since it began");
        check.answers("count(2) of a new object", 0, TypeStack::new, x -> x.count(2));
        check.answers("count(2) of 300", 300, () -> filled(0), x -> x.count(2));
        check.answers("count(2) when all has gone", 300, () -> dead(filled(0)), x -> x.count(2));
        check.answers("count(2) when one was taken before one was put", 2, () -> {
            TypeStack x = holding(1, 2);
            x.apply(2, 3);
            return x;
        }, x -> x.count(2));
        check.answers("count(2) behind begin", 0, () -> {
            TypeStack x = filled(0);
            x.begin(1);
            return x;
        }, x -> x.count(2));
        check.answers("count(2) behind what was too many", 299, () -> {
            TypeStack x = ones(299, 0);
            Check.outcome(() -> { x.apply(0, list(1, 1)); });
            return x;
        }, x -> x.count(2));
        check.answers("count(2) behind the end", 3, () -> over(list(1, 2, 3)), x -> x.count(2));
    }

    private static void countInstructions() {
        check.part("16: 3 instructions that were so since then");
        TypeStack x = begun(0);
        check.due("count(3) at first", 0, () -> x.count(3));
        Check.Act[] acts = {
            () -> x.apply(0, list(1, 1, 1)), x::select, x::drop, () -> x.apply(0, 0),
            () -> x.apply(0, list(1, 1)), () -> x.leapIf(0), () -> x.block(IF, 0, 0), x::otherwise, x::end,
            () -> x.apply(0, 1), () -> x.table(0, 0), () -> x.leap(0), x::back, x::never, x::never, x::end};
        for (int i = 0; i < acts.length; i++) {
            check.fine("act " + i, acts[i]);
            int done = i + 1;
            check.due("count(3)", done, () -> x.count(3));
        }
    }

    private static void elseMinusOne() {
        check.part("16: Else -1");
        int[] wrong = {MIN, -4, -2, -1, 4, 5, MAX};
        for (int what : wrong) {
            check.answers("count(" + what + ")", -1, () -> filled(0), x -> x.count(what));
            check.answers("count(" + what + ") behind the end", -1, () -> over(0), x -> x.count(what));
        }
    }

    private static void beginAndWhatThrowsAreNone() {
        check.part("16: begin() and what throws are none");
        TypeStack x = holding(2, 3);
        check.due("count(3)", 2, () -> x.count(3));
        Check.Act[] refused = {
            () -> x.begin(5), () -> x.apply(5, 0), () -> x.apply(2, 0), x::select, () -> x.block(3, 0, 0),
            () -> x.block(BLOCK, 2, 0), x::otherwise, x::end, () -> x.leap(1), () -> x.leapIf(0),
            () -> x.table(0, 1), () -> x.frame(1, 0), () -> x.frame(0, 6)};
        for (int i = 0; i < refused.length; i++) {
            String how = Check.outcome(refused[i]).replaceAll("[.].*", "");
            check.due("call " + i, how, "throws");
            check.due("count(3) behind it", 2, () -> x.count(3));
        }
        x.top(0);
        x.frame(0, 0);
        x.count(0);
        check.due("count(3) behind what only tells", 2, () -> x.count(3));
        x.begin(0);
        check.due("count(3) behind begin", 0, () -> x.count(3));
        x.begin(0);
        x.apply(0, 0);
        check.due("count(3) behind begin and one", 1, () -> x.count(3));
    }
}
