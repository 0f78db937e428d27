/**
 * Promises 1 to 8: each sentence of theirs that names a boundary has a test of its own here, which
 * bears the sentence's words. What a sentence shares with "Terms" stands in TermEdgesTest, and the order
 * of the exceptions in RefusalOrderTest.
 */
public final class PromiseEdgesTest extends Scenes {
    private static final Check check = new Check();
    private static final int SIX = list(1, 2, 3, 4, 3, 2);

    public static void main(String[] args) {
        asAfterBegin();
        allAnew();
        leavesAList();
        beginRefused();
        howManyAreOnTheStack();
        droppedWhateverItIs();
        typeOneIsTakenFirst();
        twoThatAreAlike();
        anyIsLikeAll();
        anyIfBothWere();
        neverOfTypeFour();
        twoAboveTheFloor();
        frameOfKind();
        typeOneBeforeTheList();
        putWithinIt();
        howManyFrames();
        elseTakesWhatTheIfLeft();
        elseWithNothingMore();
        elseOfADeadIf();
        notDeadThen();
        itIsNoIf();
        endTakesWhatTheFrameLeaves();
        endWithNothingMore();
        endOfADeadFrame();
        putInTheOneAround();
        endDownToNone();
        staysOnTheStack();
        allButBeginThrowsThen();
        ifThatDoesNotLeaveWhatItTakes();
        check.finish();
    }

    private static void stack(TypeStack x, String want) {
        check.due("the stack", Check.stack(x), "[" + want + "]");
    }

    private static void state(TypeStack x, String want) {
        check.due("the state", Check.state(x), want);
    }

    private static void asAfterBegin() {
        check.part("1: As after begin(0)");
        state(new TypeStack(), "counts 0 1 0 0 stack[] frames (0,0,0,0,0,0)");
        state(begun(0), "counts 0 1 0 0 stack[] frames (0,0,0,0,0,0)");
        check.answers("top(0)", -1, TypeStack::new, x -> x.top(0));
        check.answers("end() at once", 0, TypeStack::new, x -> x.end());
        check.refused("leap(1)", NO_ELEMENT, TypeStack::new, x -> x.leap(1));
    }

    private static void allAnew() {
        check.part("2: All anew: one FRAME; THE STACK is empty");
        String anew = "counts 0 1 0 0 stack[] frames (0,0,3,0,0,3)";
        Check.Scene[] scenes = {
            TypeStack::new, () -> filled(1), () -> nested(40), () -> dead(nested(40)), () -> dead(begun(4)),
            () -> over(0), () -> over(SIX), () -> filledAndDead(2), () -> inIf(2, 4)};
        for (Check.Scene scene : scenes) {
            TypeStack x = scene.make();
            check.fine("begin(3)", () -> x.begin(3));
            state(x, anew);
            check.refused(x, "drop(): it is not DEAD", STATE, x::drop);
            check.refused(x, "otherwise(): it is a block", UNSUPPORTED, x::otherwise);
        }
    }

    private static void leavesAList() {
        check.part("2: a block that takes nothing and leaves a LIST");
        int[] leaves = {0, 1, 4, 6, 24, 3906, 15624};
        for (int out : leaves) {
            TypeStack x = begun(out);
            check.due("frame(0, 1)", 0, () -> x.frame(0, 1));
            check.due("frame(0, 2)", out, () -> x.frame(0, 2));
            x.apply(0, out);
            check.due("end()", 0, x::end);
        }
    }

    private static void beginRefused() {
        check.part("2: begin that is refused");
        for (int wrong : NO_LISTS) {
            Check.Scene scene = () -> with(fencedAndDead(2, 3), 4);
            check.refused("begin(" + wrong + ")", ARGUMENT, scene, x -> x.begin(wrong));
            TypeStack x = scene.make();
            Check.outcome(() -> x.begin(wrong));
            check.due("drop() goes on", 4, x::drop);
        }
    }

    private static void howManyAreOnTheStack() {
        check.part("3: A LIST is taken, another one put: how many are on THE STACK");
        check.answers("apply(0, 0) on none", 0, TypeStack::new, x -> x.apply(0, 0));
        check.answers("apply(0, six) on none", 6, TypeStack::new, x -> x.apply(0, SIX));
        check.answers("apply(six, 0) on six", 0, () -> holding(1, 2, 3, 4, 3, 2), x -> x.apply(SIX, 0));
        check.answers("apply(six, six) on six", 6, () -> holding(1, 2, 3, 4, 3, 2), x -> x.apply(SIX, SIX));
        check.answers("apply(0, 1) on 299", 300, () -> ones(299, 0), x -> x.apply(0, 1));
        check.answers("apply(0, 1) above a floor: all count", 4, () -> fenced(3, 0), x -> x.apply(0, 1));
        check.refused("apply(six, 0) on five of it", STATE, () -> holding(2, 3, 4, 3, 2), x -> x.apply(SIX, 0));
    }

    private static void droppedWhateverItIs() {
        check.part("4: What is on top is taken, whatever it is: its TYPE, 0 for ANY");
        for (int type = 1; type <= 4; type++) {
            int one = type;
            check.answers("drop()", type, () -> holding(4, one), x -> x.drop());
        }
        check.answers("drop() of the last one", 2, () -> holding(2), x -> x.drop());
        check.answers("drop() of the 300th", 1, () -> filled(0), x -> x.drop());
        check.refused("drop() of none", STATE, () -> holding(), x -> x.drop());
        check.refused("drop() of one below the floor", STATE, () -> fenced(1, 0), x -> x.drop());
        TypeStack x = fencedAndDead(1, 0);
        x.select();
        check.due("drop() of an ANY that lies there", 0, x::drop);
        check.due("count(0)", 1, () -> x.count(0));
        check.due("drop() where nothing lies in dead code", 0, x::drop);
        check.due("count(0)", 1, () -> x.count(0));
    }

    private static void typeOneIsTakenFirst() {
        check.part("5: A TYPE 1 is taken");
        for (int type = 2; type <= 4; type++) {
            int one = type;
            check.refused("select() with a " + type + " on top", STATE, () -> holding(1, 1, one), x -> x.select());
            check.refused("select() with a " + type + " on top in dead code", STATE,
                    () -> with(fencedAndDead(1, 0), 1, 1, one), x -> x.select());
        }
        check.answers("select() with ANY for it", 0, () -> {
            TypeStack x = fencedAndDead(1, 0);
            x.select();
            return x;
        }, x -> x.select());
        check.refused("select() with a 1 below the floor", STATE, () -> fenced(3, 0), x -> x.select());
    }

    private static void twoThatAreAlike() {
        check.part("5: then two that are alike, whatever they are; one such is put: its TYPE");
        for (int upper = 1; upper <= 4; upper++) {
            for (int lower = 1; lower <= 4; lower++) {
                int[] there = {3, lower, upper, 1};
                String call = "select() of " + lower + " and " + upper;
                if (upper == lower && upper != 4) {
                    TypeStack x = holding(there);
                    check.due(call, upper, x::select);
                    stack(x, "3" + upper);
                } else {
                    check.refused(call, UNSUPPORTED, () -> holding(there), x -> x.select());
                }
            }
        }
    }

    private static void anyIsLikeAll() {
        check.part("5: ANY is like all");
        for (int type = 1; type <= 3; type++) {
            TypeStack lying = fencedAndDead(1, 0);
            lying.select();
            with(lying, type, 1);
            check.due("select() of an ANY that lies there and " + type, type, lying::select);
            stack(lying, "1" + type);
            TypeStack alone = with(fencedAndDead(1, 0), type, 1);
            check.due("select() of " + type + " alone in dead code", type, alone::select);
            stack(alone, "1" + type);
        }
    }

    private static void anyIfBothWere() {
        check.part("5: ANY if both were");
        TypeStack x = fencedAndDead(1, 0);
        check.due("select() of nothing", 0, x::select);
        stack(x, "10");
        x.apply(0, 1);
        check.due("select() of one ANY", 0, x::select);
        stack(x, "10");
        TypeStack one = with(fencedAndDead(1, 0), 1);
        check.due("select() with the TYPE 1 alone", 0, one::select);
        stack(one, "10");
    }

    private static void neverOfTypeFour() {
        check.part("5: UnsupportedOperationException: they are not alike, or of TYPE 4");
        check.refused("select() of two 4", UNSUPPORTED, () -> holding(4, 4, 1), x -> x.select());
        check.refused("select() of a 4 and nothing", UNSUPPORTED,
                () -> with(fencedAndDead(1, 0), 4, 1), x -> x.select());
        check.refused("select() of a 4 and an ANY that lies there", UNSUPPORTED, () -> {
            TypeStack x = fencedAndDead(1, 0);
            x.select();
            return with(x, 4, 1);
        }, x -> x.select());
        check.refused("select() of 3 and 4 in dead code", UNSUPPORTED,
                () -> with(fencedAndDead(1, 0), 3, 4, 1), x -> x.select());
        check.refused("select() of 2 and 3 in dead code", UNSUPPORTED,
                () -> with(fencedAndDead(1, 0), 2, 3, 1), x -> x.select());
    }

    private static void twoAboveTheFloor() {
        check.part("5: what is to be taken can't be");
        check.answers("select() of just three", 2, () -> with(fenced(2, 0), 2, 2, 1), x -> x.select());
        check.refused("select() of just two", STATE, () -> with(fenced(2, 0), 1, 1), x -> x.select());
        check.refused("select() of just one", STATE, () -> with(fenced(2, 0), 1), x -> x.select());
        check.refused("select() of none", STATE, () -> fenced(2, 0), x -> x.select());
    }

    private static void frameOfKind() {
        check.part("6: A FRAME of KIND 0, 1, 2");
        for (int kind = 0; kind <= 2; kind++) {
            int one = kind;
            check.answers("block(" + kind + ", 0, 0)", 2, () -> holding(1), x -> x.block(one, 0, 0));
        }
        int[] noKinds = {MIN, -2, -1, 3, 4, 5, MAX};
        for (int kind : noKinds) {
            check.refused("block(" + kind + ", 0, 0)", ARGUMENT, () -> holding(1), x -> x.block(kind, 0, 0));
            check.refused("block(" + kind + ", 0, 0) in dead code", ARGUMENT,
                    () -> fencedAndDead(1, 0), x -> x.block(kind, 0, 0));
        }
    }

    private static void typeOneBeforeTheList() {
        check.part("6: 2: a TYPE 1 is taken first");
        TypeStack x = holding(2, 1);
        check.due("block(2, 2, 0) of 2 1", 2, () -> x.block(IF, 2, 0));
        stack(x, "2");
        check.refused("block(2, 2, 0) of 1 2", STATE, () -> holding(1, 2), y -> y.block(IF, 2, 0));
        check.refused("block(2, 1, 0) of one 1", STATE, () -> holding(1), y -> y.block(IF, 1, 0));
        check.answers("block(2, 1, 0) of two 1", 2, () -> holding(1, 1), y -> y.block(IF, 1, 0));
        check.answers("block(2, six, 0) of just that", 2,
                () -> holding(1, 2, 3, 4, 3, 2, 1), y -> y.block(IF, SIX, 0));
        check.refused("block(2, 0, 0) of a 1 below the floor", STATE, () -> fenced(1, 0), y -> y.block(IF, 0, 0));
        check.answers("block(2, six, 0) of nothing in dead code", 3,
                () -> fencedAndDead(1, 0), y -> y.block(IF, SIX, 0));
        check.refused("block(2, 0, 0) of a 2 in dead code", STATE,
                () -> with(fencedAndDead(1, 0), 2), y -> y.block(IF, 0, 0));
        TypeStack plain = holding(1);
        plain.block(BLOCK, 0, 0);
        stack(plain, "1");
    }

    private static void putWithinIt() {
        check.part("6: a LIST is taken; then put within it");
        TypeStack x = holding(4, 2, 3);
        x.block(BLOCK, list(2, 3), 0);
        check.due("drop() within it", 3, x::drop);
        check.due("drop() within it", 2, x::drop);
        check.refused(x, "drop() from below it", STATE, x::drop);
        TypeStack gone = fencedAndDead(1, 0);
        gone.block(LOOP, list(2, 3), 0);
        stack(gone, "123");
        TypeStack any = fencedAndDead(1, 0);
        any.select();
        any.block(BLOCK, 4, 0);
        stack(any, "14");
        check.refused("block(0, six, 0) of five of it", STATE,
                () -> holding(2, 3, 4, 3, 2), y -> y.block(BLOCK, SIX, 0));
        check.answers("block(0, six, 0) of just that", 2,
                () -> holding(1, 2, 3, 4, 3, 2), y -> y.block(BLOCK, SIX, 0));
    }

    private static void howManyFrames() {
        check.part("6: how many FRAMES there are");
        TypeStack x = new TypeStack();
        for (int frames = 2; frames <= 40; frames++) {
            check.due("block(0, 0, 0)", frames, () -> x.block(BLOCK, 0, 0));
        }
        check.due("count(1)", 40, () -> x.count(1));
        check.refused("block(0, 0, 0) as the 41st", TOO_MANY, () -> nested(40), y -> y.block(BLOCK, 0, 0));
    }

    private static void elseTakesWhatTheIfLeft() {
        check.part("7: What the innermost FRAME leaves is taken");
        TypeStack x = with(inIf(0, list(2, 3)), 2, 3);
        check.fine("otherwise() with just that", x::otherwise);
        stack(x, "");
        check.refused("otherwise() with none of it", STATE, () -> inIf(0, list(2, 3)), y -> y.otherwise());
        check.refused("otherwise() with half of it", STATE, () -> with(inIf(0, list(2, 3)), 3), y -> y.otherwise());
        check.refused("otherwise() in another order", STATE,
                () -> with(inIf(0, list(2, 3)), 3, 2), y -> y.otherwise());
        check.fine("otherwise() of an if that leaves nothing", () -> inIf(0, 0), y -> y.otherwise());
        check.fine("otherwise() of an if that takes and leaves six", () -> inIf(SIX, SIX), y -> y.otherwise());
    }

    private static void elseWithNothingMore() {
        check.part("7: and nothing more may be above its FLOOR (IllegalStateException, too)");
        check.refused("otherwise() with one more", STATE, () -> with(inIf(0, 0), 2), x -> x.otherwise());
        check.refused("otherwise() with one more below what it leaves", STATE,
                () -> with(inIf(0, 3), 3, 3), x -> x.otherwise());
        check.refused("otherwise() with what it takes and what it leaves", STATE,
                () -> with(inIf(2, 3), 3), x -> x.otherwise());
        TypeStack x = holding(3, 3, 1);
        x.block(IF, 0, 0);
        check.fine("otherwise() with more below its floor", x::otherwise);
        stack(x, "33");
    }

    private static void elseOfADeadIf() {
        check.part("7: What a DEAD if leaves is taken");
        check.fine("otherwise() with nothing", () -> dead(inIf(0, list(2, 3))), x -> x.otherwise());
        check.fine("otherwise() with half of it", () -> with(dead(inIf(0, list(2, 3))), 3), x -> x.otherwise());
        check.fine("otherwise() with all of it", () -> with(dead(inIf(0, list(2, 3))), 2, 3), x -> x.otherwise());
        check.refused("otherwise() with one more", STATE,
                () -> with(dead(inIf(0, list(2, 3))), 2, 2, 3), x -> x.otherwise());
        check.refused("otherwise() with its first alone", STATE,
                () -> with(dead(inIf(0, list(2, 3))), 2), x -> x.otherwise());
        check.refused("otherwise() with an ANY too many", STATE, () -> {
            TypeStack x = dead(inIf(0, 0));
            x.select();
            return x;
        }, x -> x.otherwise());
    }

    private static void notDeadThen() {
        check.part("7: it is an else then, not DEAD, and what it takes is put");
        TypeStack x = dead(inIf(list(4, 2), 3));
        check.fine("otherwise()", x::otherwise);
        state(x, "counts 2 2 3 5 stack[42] frames (3,22,3,0,0,3) (0,0,0,0,0,0)");
        check.due("drop()", 2, x::drop);
        check.due("drop()", 4, x::drop);
        check.refused(x, "drop(): it is not DEAD", STATE, x::drop);
    }

    private static void itIsNoIf() {
        check.part("7: UnsupportedOperationException: it is no if");
        check.refused("otherwise() of the outermost", UNSUPPORTED, TypeStack::new, x -> x.otherwise());
        check.refused("otherwise() of a block", UNSUPPORTED, () -> fenced(1, 0), x -> x.otherwise());
        check.refused("otherwise() of a loop", UNSUPPORTED, () -> {
            TypeStack x = holding(1);
            x.block(LOOP, 0, 0);
            return x;
        }, x -> x.otherwise());
        check.refused("otherwise() of an else", UNSUPPORTED, () -> {
            TypeStack x = inIf(0, 0);
            x.otherwise();
            return x;
        }, x -> x.otherwise());
        check.refused("otherwise() of a block within an if", UNSUPPORTED, () -> {
            TypeStack x = inIf(0, 0);
            x.block(BLOCK, 0, 0);
            return x;
        }, x -> x.otherwise());
    }

    private static void endTakesWhatTheFrameLeaves() {
        check.part("8: Likewise: what the FRAME leaves is taken");
        check.answers("end() with just that", 1, () -> with(fenced(1, list(2, 3)), 2, 3), x -> x.end());
        check.answers("end() with six", 1, () -> with(fenced(1, SIX), 1, 2, 3, 4, 3, 2), x -> x.end());
        check.answers("end() with nothing", 1, () -> fenced(1, 0), x -> x.end());
        check.refused("end() with none of it", STATE, () -> fenced(2, list(1, 1)), x -> x.end());
        check.refused("end() with half of it", STATE, () -> with(fenced(1, list(1, 1)), 1), x -> x.end());
        check.refused("end() in another order", STATE, () -> with(fenced(1, list(2, 3)), 3, 2), x -> x.end());
        TypeStack loop = holding(2);
        loop.block(LOOP, 2, 3);
        check.refused(loop, "end() of a loop with what it takes", STATE, loop::end);
        loop.apply(2, 3);
        check.due("end() of a loop with what it leaves", 1, loop::end);
    }

    private static void endWithNothingMore() {
        check.part("8: Likewise: nothing more may be above its FLOOR");
        check.refused("end() with one more", STATE, () -> with(fenced(1, 0), 2), x -> x.end());
        check.refused("end() with one more below what it leaves", STATE,
                () -> with(fenced(1, 3), 3, 3), x -> x.end());
        check.refused("end() of the outermost with one more", STATE, () -> holding(1), x -> x.end());
    }

    private static void endOfADeadFrame() {
        check.part("8: Likewise: a DEAD FRAME");
        check.answers("end() with nothing", 1, () -> fencedAndDead(1, list(2, 3)), x -> x.end());
        check.answers("end() with half of it", 1, () -> with(fencedAndDead(1, list(2, 3)), 3), x -> x.end());
        check.answers("end() with all of it", 1, () -> with(fencedAndDead(1, list(2, 3)), 2, 3), x -> x.end());
        check.refused("end() with one more", STATE,
                () -> with(fencedAndDead(1, list(2, 3)), 2, 2, 3), x -> x.end());
        check.refused("end() with its first alone", STATE,
                () -> with(fencedAndDead(1, list(2, 3)), 2), x -> x.end());
        check.refused("end() with an ANY too many", STATE, () -> {
            TypeStack x = fencedAndDead(1, 0);
            x.select();
            return x;
        }, x -> x.end());
    }

    private static void putInTheOneAround() {
        check.part("8: the FRAME is no more, and what it leaves is put in the one around it");
        TypeStack x = with(fenced(1, list(2, 3)), 2, 3);
        check.due("end()", 1, x::end);
        state(x, "counts 3 1 3 5 stack[123] frames (0,0,0,0,0,0)");
        check.due("drop() of it in the one around", 3, x::drop);
        TypeStack gone = fencedAndDead(1, list(2, 3));
        check.due("end() of a DEAD one", 1, gone::end);
        stack(gone, "123");
        TypeStack any = fencedAndDead(1, 4);
        any.select();
        check.due("end() with ANY for it", 1, any::end);
        stack(any, "14");
    }

    private static void endDownToNone() {
        check.part("8: how many FRAMES there are. (0: it was the outermost one");
        TypeStack x = nested(40);
        for (int frames = 39; frames >= 0; frames--) {
            check.due("end()", frames, x::end);
        }
        check.due("count(1)", 0, () -> x.count(1));
        check.refused(x, "end() of none", NO_ELEMENT, x::end);
    }

    private static void staysOnTheStack() {
        check.part("8: what it leaves stays on THE STACK");
        state(over(0), "counts 0 0 0 2 stack[] frames");
        state(over(SIX), "counts 6 0 6 2 stack[123432] frames");
        TypeStack gone = dead(begun(list(3, 4)));
        check.due("end() of the outermost, DEAD", 0, gone::end);
        state(gone, "counts 2 0 2 2 stack[34] frames");
    }

    private static void allButBeginThrowsThen() {
        check.part("8: all but begin() and what is told throws then");
        Check.Use[] uses = {
            x -> x.apply(0, 0), x -> x.apply(1, 1), x -> x.drop(), x -> x.select(), x -> x.block(BLOCK, 0, 0),
            x -> x.block(LOOP, 1, 1), x -> x.block(IF, 0, 0), x -> x.otherwise(), x -> x.end(), x -> x.leap(0),
            x -> x.leapIf(0), x -> x.table(0, 0), x -> x.back(), x -> x.never(), x -> x.frame(0, 0)};
        for (int i = 0; i < uses.length; i++) {
            check.refused("use " + i + " with three left", NO_ELEMENT, () -> over(list(1, 1, 1)), uses[i]);
            check.refused("use " + i + " with none left", NO_ELEMENT, () -> over(0), uses[i]);
            check.refused("use " + i + " behind a DEAD end", NO_ELEMENT, () -> {
                TypeStack x = dead(begun(1));
                x.end();
                return x;
            }, uses[i]);
        }
        check.answers("top(0)", 3, () -> over(list(2, 3)), x -> x.top(0));
        check.answers("top(1)", 2, () -> over(list(2, 3)), x -> x.top(1));
        check.answers("top(2)", -1, () -> over(list(2, 3)), x -> x.top(2));
        check.answers("count(0)", 2, () -> over(list(2, 3)), x -> x.count(0));
        check.answers("count(1)", 0, () -> over(list(2, 3)), x -> x.count(1));
        check.fine("begin(0)", () -> over(list(2, 3)), x -> x.begin(0));
    }

    private static void ifThatDoesNotLeaveWhatItTakes() {
        check.part("8: UnsupportedOperationException: it is an if that does not leave what it takes");
        int[] lists = {0, 1, 2, list(1, 2), list(2, 1), SIX};
        for (int in : lists) {
            for (int out : lists) {
                String call = "end() of an if that takes " + in + " and leaves " + out;
                if (in == out) {
                    check.answers(call, 1, () -> inIf(in, out), x -> x.end());
                } else {
                    check.refused(call, UNSUPPORTED, () -> dead(inIf(in, out)), x -> x.end());
                    check.answers("end() of its else", 1, () -> {
                        TypeStack x = dead(inIf(in, out));
                        x.otherwise();
                        return dead(x);
                    }, x -> x.end());
                }
            }
        }
        check.answers("end() of a block that leaves other than it takes", 1, () -> {
            TypeStack x = holding(2);
            x.block(BLOCK, 2, 3);
            return dead(x);
        }, x -> x.end());
    }
}
