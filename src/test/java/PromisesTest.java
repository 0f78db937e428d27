/** Each promise of the document by itself: ordinary inputs, the edges it names, wrong inputs. */
public final class PromisesTest extends Scenes {
    private static final Check check = new Check();

    public static void main(String[] args) {
        newObject();
        begin();
        apply();
        applyAtTheLimit();
        drop();
        select();
        selectInDeadCode();
        selectAtTheLimit();
        block();
        blockRefuses();
        blockAtTheLimits();
        otherwise();
        otherwiseRefuses();
        end();
        endRefuses();
        endOfTheOutermost();
        leap();
        leapIf();
        leapIfAtTheLimit();
        table();
        tableRefuses();
        back();
        never();
        top();
        frame();
        count();
        afterTheLastEnd();
        check.finish();
    }

    private static void stack(TypeStack x, String want) {
        check.due("the stack", Check.stack(x), "[" + want + "]");
    }

    private static void frame(TypeStack x, int l, String want) {
        check.due("frame " + l, Check.frame(x, l), "(" + want + ")");
    }

    private static void newObject() {
        check.part("1 new object");
        TypeStack x = new TypeStack();
        check.due("the state", Check.state(x), Check.state(begun(0)));
        check.due("the state", Check.state(x), "counts 0 1 0 0 stack[] frames (0,0,0,0,0,0)");
        TypeStack other = new TypeStack();
        x.apply(0, 3);
        check.due("another object's count(0)", 0, () -> other.count(0));
    }

    private static void begin() {
        check.part("2 begin");
        TypeStack x = holding(1, 2, 3);
        x.block(LOOP, 3, 4);
        x.never();
        check.fine("begin(7)", () -> x.begin(list(1, 2)));
        check.due("the state", Check.state(x), "counts 0 1 0 0 stack[] frames (0,0,7,0,0,7)");
        check.refused(x, "drop()", STATE, x::drop);
        check.fine("begin(444444)", () -> x.begin(list(4, 4, 4, 4, 4, 4)));
        frame(x, 0, "0,0,15624,0,0,15624");
        x.apply(0, 2);
        for (int wrong : NO_LISTS) {
            check.refused("begin(" + wrong + ")", ARGUMENT, () -> holding(2), y -> y.begin(wrong));
        }
        check.fine("begin(0)", () -> x.begin(0));
        check.due("end()", 0, x::end);
        check.fine("begin(3)", () -> x.begin(3));
        check.due("the state", Check.state(x), "counts 0 1 0 0 stack[] frames (0,0,3,0,0,3)");
        x.never();
        check.fine("begin(3) in dead code", () -> x.begin(3));
        check.refused(x, "drop(): the new frame is not dead", STATE, x::drop);
    }

    private static void apply() {
        check.part("3 apply");
        TypeStack x = new TypeStack();
        check.due("apply(0, 0)", 0, () -> x.apply(0, 0));
        check.due("apply(0, 1234)", 4, () -> x.apply(0, list(1, 2, 3, 4)));
        stack(x, "1234");
        check.refused(x, "apply(43, 0)", STATE, () -> x.apply(list(4, 3), 0));
        check.refused(x, "apply(24, 0)", STATE, () -> x.apply(list(2, 4), 0));
        check.refused(x, "apply(11234, 0)", STATE, () -> x.apply(list(1, 1, 2, 3, 4), 0));
        check.due("apply(34, 222)", 5, () -> x.apply(list(3, 4), list(2, 2, 2)));
        stack(x, "12222");
        check.due("apply(12222, 444444)", 6, () -> x.apply(list(1, 2, 2, 2, 2), list(4, 4, 4, 4, 4, 4)));
        stack(x, "444444");
        check.due("apply(444444, 0)", 0, () -> x.apply(list(4, 4, 4, 4, 4, 4), 0));
        for (int wrong : NO_LISTS) {
            check.refused("apply(" + wrong + ", 0)", ARGUMENT, TypeStack::new, y -> y.apply(wrong, 0));
            check.refused("apply(0, " + wrong + ")", ARGUMENT, TypeStack::new, y -> y.apply(0, wrong));
            check.refused("apply(4, " + wrong + ")", ARGUMENT, TypeStack::new, y -> y.apply(4, wrong));
        }
        x.apply(0, 3);
        x.block(BLOCK, 0, 0);
        check.refused(x, "apply(3, 0) from below the floor", STATE, () -> x.apply(3, 0));
        x.never();
        check.due("apply(1234, 12) in dead code", 3, () -> x.apply(list(1, 2, 3, 4), list(1, 2)));
        stack(x, "312");
        check.refused(x, "apply(1, 0) of what lies there", STATE, () -> x.apply(1, 0));
        check.due("apply(4412, 0) of half of what is there", 1, () -> x.apply(list(4, 4, 1, 2), 0));
    }

    private static void applyAtTheLimit() {
        check.part("3 apply at the limit");
        check.refused("apply(0, 1)", TOO_MANY, () -> filled(0), x -> x.apply(0, 1));
        check.refused("apply(1, 11)", TOO_MANY, () -> filled(0), x -> x.apply(1, list(1, 1)));
        check.refused("apply(2, 11)", STATE, () -> filled(0), x -> x.apply(2, list(1, 1)));
        TypeStack x = filled(0);
        check.due("apply(11, 22)", 300, () -> x.apply(list(1, 1), list(2, 2)));
        check.due("apply(2, 0)", 299, () -> x.apply(2, 0));
        check.due("apply(0, 1)", 300, () -> x.apply(0, 1));
        check.refused("apply(0, 11) on 299", TOO_MANY, () -> ones(299, 0), y -> y.apply(0, list(1, 1)));
    }

    private static void drop() {
        check.part("4 drop");
        TypeStack x = holding(1, 2, 3, 4);
        check.due("drop()", 4, x::drop);
        check.due("drop()", 3, x::drop);
        check.due("drop()", 2, x::drop);
        stack(x, "1");
        x.block(BLOCK, 0, 0);
        check.refused(x, "drop() from below the floor", STATE, x::drop);
        x.never();
        check.due("drop() in dead code", 0, x::drop);
        check.due("drop() in dead code", 0, x::drop);
        check.due("count(0)", 1, () -> x.count(0));
        x.apply(0, 3);
        check.due("drop() of a type in dead code", 3, x::drop);
        x.select();
        check.due("count(0)", 2, () -> x.count(0));
        check.due("drop() of ANY", 0, x::drop);
        check.due("count(0)", 1, () -> x.count(0));
        check.refused(new TypeStack(), "drop()", STATE, new TypeStack()::drop);
    }

    private static void select() {
        check.part("5 select");
        for (int type = 1; type <= 3; type++) {
            TypeStack x = holding(4, type, type, 1);
            check.due("select()", type, x::select);
            stack(x, "4" + type);
        }
        for (int upper = 1; upper <= 4; upper++) {
            for (int lower = 1; lower <= 4; lower++) {
                TypeStack x = holding(lower, upper, 1);
                if (upper != lower || upper == 4) {
                    check.refused(x, "select() of " + lower + " and " + upper, UNSUPPORTED, x::select);
                }
            }
        }
        TypeStack noCondition = holding(2, 2, 2);
        check.refused(noCondition, "select() without a TYPE 1", STATE, noCondition::select);
        TypeStack one = holding(4, 1);
        check.refused(one, "select() of one", STATE, one::select);
        TypeStack none = holding(1);
        check.refused(none, "select() of none", STATE, none::select);
        TypeStack fenced = holding(2, 2);
        fenced.block(BLOCK, 0, 0);
        fenced.apply(0, 1);
        check.refused(fenced, "select() from below the floor", STATE, fenced::select);
    }

    private static void selectInDeadCode() {
        check.part("5 select in dead code");
        TypeStack x = holding(3);
        x.block(BLOCK, 0, 0);
        x.never();
        check.due("select() of nothing", 0, x::select);
        stack(x, "30");
        check.due("select() with ANY as TYPE 1", 0, x::select);
        stack(x, "30");
        x.apply(0, list(2, 1));
        check.due("select() of ANY and 2", 2, x::select);
        stack(x, "32");
        x.apply(0, 1);
        check.due("select() of 2 alone", 2, x::select);
        stack(x, "32");
        x.apply(0, list(4, 1));
        check.refused(x, "select() of 2 and 4", UNSUPPORTED, x::select);
        x.never();
        x.apply(0, list(4, 1));
        check.refused(x, "select() of 4 alone", UNSUPPORTED, x::select);
        x.never();
        x.apply(0, 4);
        check.refused(x, "select() with a 4 for TYPE 1", STATE, x::select);
        x.never();
        x.select();
        x.apply(0, list(4, 1));
        check.refused(x, "select() of ANY and 4", UNSUPPORTED, x::select);
        x.apply(list(4, 1), 1);
        check.due("select() of ANY alone", 0, x::select);
        stack(x, "30");
    }

    private static void selectAtTheLimit() {
        check.part("5 select at the limit");
        check.refused("select()", TOO_MANY, () -> filledAndDead(0), x -> x.select());
        TypeStack live = filled(0);
        check.due("select()", 1, live::select);
        check.due("count(0)", 298, () -> live.count(0));
        TypeStack almost = fencedAndDead(299, 0);
        check.due("select()", 0, almost::select);
        check.due("count(0)", 300, () -> almost.count(0));
        check.refused("select() with a 2 as the 300th", STATE,
                () -> with(fencedAndDead(299, 0), 2), x -> x.select());
    }

    private static void block() {
        check.part("6 block");
        TypeStack x = holding(4, 1, 2, 3);
        check.due("block(0, 23, 4)", 2, () -> x.block(BLOCK, list(2, 3), 4));
        stack(x, "4123");
        frame(x, 0, "0,13,4,2,0,4");
        frame(x, 1, "0,0,0,0,0,0");
        check.due("block(1, 3, 44)", 3, () -> x.block(LOOP, 3, list(4, 4)));
        frame(x, 0, "1,3,24,3,0,3");
        x.apply(0, 1);
        check.due("block(2, 3, 0)", 4, () -> x.block(IF, 3, 0));
        stack(x, "4123");
        frame(x, 0, "2,3,0,3,0,0");
        x.never();
        check.due("block(2, 2, 1) in dead code", 5, () -> x.block(IF, 2, 1));
        stack(x, "4122");
        frame(x, 0, "2,2,1,3,0,1");
        frame(x, 1, "2,3,0,3,1,0");
        check.due("drop()", 2, x::drop);
        check.refused(x, "drop(): the new frame is not dead", STATE, x::drop);
        x.never();
        x.otherwise();
        x.never();
        x.end();
        check.due("block(0, 0, 1) where a dead one was", 5, () -> x.block(BLOCK, 0, 1));
        frame(x, 0, "0,0,1,4,0,1");
    }

    private static void blockRefuses() {
        check.part("6 block refuses");
        Check.Scene three = () -> holding(1, 2, 3);
        int[] noKinds = {MIN, -1, 3, 4, MAX};
        for (int kind : noKinds) {
            check.refused("block(" + kind + ", 0, 0)", ARGUMENT, three, y -> y.block(kind, 0, 0));
        }
        for (int wrong : NO_LISTS) {
            check.refused("block(0, " + wrong + ", 0)", ARGUMENT, three, y -> y.block(BLOCK, wrong, 0));
            check.refused("block(1, 4, " + wrong + ")", ARGUMENT, three, y -> y.block(LOOP, 4, wrong));
        }
        TypeStack x = three.make();
        check.refused(x, "block(0, 2, 0)", STATE, () -> x.block(BLOCK, 2, 0));
        check.refused(x, "block(1, 33, 0)", STATE, () -> x.block(LOOP, list(3, 3), 0));
        check.refused(x, "block(0, 1123, 0)", STATE, () -> x.block(BLOCK, list(1, 1, 2, 3), 0));
        check.refused(x, "block(2, 0, 0) without a TYPE 1", STATE, () -> x.block(IF, 0, 0));
        x.apply(0, 1);
        check.refused(x, "block(2, 1, 0): the 1 is taken first", STATE, () -> x.block(IF, 1, 0));
        check.due("block(2, 123, 0)", 2, () -> x.block(IF, list(1, 2, 3), 0));
        x.apply(list(1, 2, 3), 1);
        check.due("block(2, 0, 0)", 3, () -> x.block(IF, 0, 0));
        check.refused(x, "block(2, 0, 0) from below the floor", STATE, () -> x.block(IF, 0, 0));
    }

    private static void blockAtTheLimits() {
        check.part("6 block at the limits");
        TypeStack x = new TypeStack();
        for (int i = 2; i <= 40; i++) {
            check.due("block(0, 0, 0)", i, () -> x.block(BLOCK, 0, 0));
        }
        check.refused("block(0, 0, 0) as the 41st", TOO_MANY, () -> nested(40), y -> y.block(BLOCK, 0, 0));
        check.refused("block(2, 0, 0) as the 41st", STATE, () -> nested(40), y -> y.block(IF, 0, 0));
        check.refused("block(3, 0, 0) as the 41st", ARGUMENT, () -> nested(40), y -> y.block(3, 0, 0));
        check.due("end()", 39, x::end);
        check.due("block(1, 0, 0)", 40, () -> x.block(LOOP, 0, 0));
        check.refused("block(0, 1, 0) on a full stack", TOO_MANY,
                () -> filledAndDead(0), y -> y.block(BLOCK, 1, 0));
        TypeStack full = filledAndDead(0);
        check.due("block(2, 0, 111111) on a full stack", 3, () -> full.block(IF, 0, list(1, 1, 1, 1, 1, 1)));
        TypeStack live = filled(0);
        check.due("block(0, 11, 0) on a full stack", 2, () -> live.block(BLOCK, list(1, 1), 0));
        frame(live, 0, "0,6,0,298,0,0");
    }

    private static void otherwise() {
        check.part("7 otherwise");
        TypeStack x = holding(4, 2, 3, 1);
        x.block(IF, list(2, 3), 1);
        x.apply(list(2, 3), 1);
        check.fine("otherwise()", x::otherwise);
        stack(x, "423");
        frame(x, 0, "3,13,1,1,0,1");
        check.refused(x, "otherwise() of an else", UNSUPPORTED, x::otherwise);
        check.due("apply(23, 1)", 2, () -> x.apply(list(2, 3), 1));
        check.due("end()", 1, x::end);
        stack(x, "41");
        x.block(IF, 0, list(1, 2));
        x.never();
        x.apply(0, 2);
        check.fine("otherwise() in dead code", x::otherwise);
        stack(x, "4");
        frame(x, 0, "3,0,7,1,0,7");
        check.refused(x, "drop(): an else is not dead", STATE, x::drop);
        TypeStack full = filled(0);
        full.block(IF, list(1, 1), 0);
        full.never();
        check.fine("otherwise() near the limit", full::otherwise);
        check.due("count(0)", 299, () -> full.count(0));
    }

    private static void otherwiseRefuses() {
        check.part("7 otherwise refuses");
        TypeStack x = holding(2, 1);
        check.refused(x, "otherwise() of the outermost", UNSUPPORTED, x::otherwise);
        x.block(IF, 0, list(2, 3));
        check.refused(x, "otherwise() with too few", STATE, x::otherwise);
        x.apply(0, 3);
        check.refused(x, "otherwise() with what is below the floor", STATE, x::otherwise);
        x.apply(0, 2);
        check.refused(x, "otherwise() in the wrong order", STATE, x::otherwise);
        x.apply(list(3, 2), list(2, 2, 3));
        check.refused(x, "otherwise() with too many", STATE, x::otherwise);
        x.never();
        x.apply(0, list(1, 2, 3));
        check.refused(x, "otherwise() with too many in dead code", STATE, x::otherwise);
        x.never();
        x.apply(0, 2);
        check.refused(x, "otherwise() with the wrong one in dead code", STATE, x::otherwise);
        x.block(BLOCK, 0, 0);
        check.refused(x, "otherwise() of a block", UNSUPPORTED, x::otherwise);
        x.block(LOOP, 0, 1);
        check.refused(x, "otherwise() of a loop", UNSUPPORTED, x::otherwise);
    }

    private static void end() {
        check.part("8 end");
        TypeStack x = holding(4, 2);
        x.block(BLOCK, 2, list(3, 1));
        x.apply(2, list(3, 1));
        check.due("end() of a block", 1, x::end);
        stack(x, "431");
        x.block(IF, 3, 3);
        check.due("end() of an if that leaves what it takes", 1, x::end);
        stack(x, "43");
        x.block(LOOP, 3, list(2, 1));
        x.never();
        check.due("end() of a dead loop", 1, x::end);
        stack(x, "421");
        frame(x, 0, "0,0,0,0,0,0");
        x.block(BLOCK, 0, list(2, 2));
        x.never();
        x.select();
        check.due("end() with ANY", 1, x::end);
        stack(x, "42122");
        x.never();
        x.block(BLOCK, 0, 3);
        x.apply(0, 3);
        check.due("end() within dead code", 1, x::end);
        frame(x, 0, "0,0,0,0,1,0");
        stack(x, "3");
        x.apply(0, 1);
        x.block(IF, 0, 2);
        x.never();
        x.otherwise();
        x.apply(0, 2);
        check.due("end() of an else", 1, x::end);
        stack(x, "32");
    }

    private static void endRefuses() {
        check.part("8 end refuses");
        TypeStack x = holding(3, 1);
        x.block(IF, 0, 3);
        check.refused(x, "end() of an if that leaves else than it takes", UNSUPPORTED, x::end);
        x.never();
        check.refused(x, "end() of such an if that is dead", UNSUPPORTED, x::end);
        x.otherwise();
        check.refused(x, "end() with what is below the floor", STATE, x::end);
        x.apply(0, 2);
        check.refused(x, "end() with the wrong one", STATE, x::end);
        x.apply(2, list(3, 3));
        check.refused(x, "end() with too many", STATE, x::end);
        x.never();
        x.apply(0, list(3, 3));
        check.refused(x, "end() with too many in dead code", STATE, x::end);
        check.refused("end() on a full stack", TOO_MANY, () -> filledAndDead(1), y -> y.end());
        check.refused("end() with room for one of two", TOO_MANY,
                () -> fencedAndDead(299, list(1, 1)), y -> y.end());
        TypeStack swapped = holding(2, 3, 1);
        swapped.block(IF, list(2, 3), list(3, 2));
        check.refused(swapped, "end() of an if that swaps", UNSUPPORTED, swapped::end);
    }

    private static void endOfTheOutermost() {
        check.part("8 end of the outermost");
        TypeStack x = begun(list(3, 4));
        x.apply(0, 4);
        check.refused(x, "end() with too few", STATE, x::end);
        x.apply(4, list(2, 3, 4));
        check.refused(x, "end() with too many", STATE, x::end);
        x.apply(list(2, 3, 4), list(3, 4));
        check.due("end()", 0, x::end);
        check.due("the state", Check.state(x), "counts 2 0 3 4 stack[34] frames");
        TypeStack gone = begun(list(3, 4));
        gone.never();
        check.due("end() in dead code", 0, gone::end);
        stack(gone, "34");
        TypeStack any = begun(2);
        any.never();
        any.select();
        check.due("end() with ANY", 0, any::end);
        stack(any, "2");
    }

    private static void leap() {
        check.part("9 leap");
        TypeStack x = begun(2);
        x.apply(0, list(4, 3));
        x.block(LOOP, 3, list(1, 1));
        x.block(BLOCK, 0, 4);
        x.apply(0, list(4, 3));
        check.refused(x, "leap(0)", STATE, () -> x.leap(0));
        check.refused(x, "leap(2)", STATE, () -> x.leap(2));
        check.refused(x, "leap(3)", NO_ELEMENT, () -> x.leap(3));
        check.refused(x, "leap(-1)", NO_ELEMENT, () -> x.leap(-1));
        check.refused(x, "leap(MIN)", NO_ELEMENT, () -> x.leap(Integer.MIN_VALUE));
        check.refused(x, "leap(MAX)", NO_ELEMENT, () -> x.leap(Integer.MAX_VALUE));
        check.fine("leap(1) to a loop", () -> x.leap(1));
        stack(x, "43");
        frame(x, 0, "0,0,4,2,1,4");
        frame(x, 1, "1,3,6,1,0,3");
        check.fine("leap(2) in dead code", () -> x.leap(2));
        x.apply(0, 1);
        check.refused(x, "leap(0) with the wrong one in dead code", STATE, () -> x.leap(0));
        x.never();
        x.end();
        x.apply(0, 2);
        check.fine("leap(1) with more than is wanted", () -> x.leap(1));
        stack(x, "4");
        x.end();
        check.refused(x, "leap(0) with the wrong one", STATE, () -> x.leap(0));
        x.apply(0, 2);
        check.fine("leap(0) of the outermost", () -> x.leap(0));
        stack(x, "");
        frame(x, 0, "0,0,2,0,1,2");
        TypeStack fenced = holding(1);
        fenced.block(BLOCK, 0, 1);
        check.refused(fenced, "leap(0) with what is below the floor", STATE, () -> fenced.leap(0));
    }

    private static void leapIf() {
        check.part("10 leapIf");
        TypeStack x = begun(list(2, 3));
        x.apply(0, list(4, 2, 3, 1));
        check.due("leapIf(0)", 3, () -> x.leapIf(0));
        stack(x, "423");
        frame(x, 0, "0,0,13,0,0,13");
        check.refused(x, "leapIf(0) without a TYPE 1", STATE, () -> x.leapIf(0));
        x.block(LOOP, 3, 4);
        x.apply(0, 1);
        check.refused(x, "leapIf(1) with too few", STATE, () -> x.leapIf(1));
        check.refused(x, "leapIf(2)", NO_ELEMENT, () -> x.leapIf(2));
        check.refused(x, "leapIf(-1)", NO_ELEMENT, () -> x.leapIf(-1));
        check.refused(x, "leapIf(MIN)", NO_ELEMENT, () -> x.leapIf(Integer.MIN_VALUE));
        check.due("leapIf(0) to a loop", 3, () -> x.leapIf(0));
        x.never();
        check.due("leapIf(1) in dead code", 4, () -> x.leapIf(1));
        stack(x, "4223");
        x.never();
        x.select();
        x.apply(0, 1);
        check.due("leapIf(0) with ANY", 3, () -> x.leapIf(0));
        stack(x, "423");
        frame(x, 0, "1,3,4,2,1,3");
        x.apply(3, list(4, 1));
        check.refused(x, "leapIf(0) with the wrong one in dead code", STATE, () -> x.leapIf(0));
        x.never();
        x.apply(0, 1);
        x.block(BLOCK, 0, 0);
        check.refused(x, "leapIf(0) with a 1 below the floor", STATE, () -> x.leapIf(0));
    }

    private static void leapIfAtTheLimit() {
        check.part("10 leapIf at the limit");
        check.refused("leapIf(0)", TOO_MANY, () -> filledAndDead(1), x -> x.leapIf(0));
        check.answers("leapIf(1)", 300, () -> filledAndDead(1), x -> x.leapIf(1));
        TypeStack live = filled(list(1, 1));
        check.due("leapIf(0)", 299, () -> live.leapIf(0));
    }

    private static void table() {
        check.part("11 table");
        TypeStack x = begun(list(2, 3));
        x.apply(0, list(4, 2));
        x.block(LOOP, 2, list(1, 1));
        x.block(BLOCK, 0, 4);
        x.block(BLOCK, 0, list(2, 3));
        x.apply(0, list(4, 2, 3, 1));
        check.fine("table(0, 3)", () -> x.table(0, 3));
        stack(x, "42");
        frame(x, 0, "0,0,13,2,1,13");
        frame(x, 1, "0,0,4,2,0,4");
        check.fine("table(2, 1) in dead code: 2 and 4 are both ANY", () -> x.table(2, 1));
        x.apply(0, 1);
        check.fine("table(0, 3) with the TYPE 1 alone in dead code", () -> x.table(0, 3));
        stack(x, "42");
        x.apply(0, list(2, 1));
        check.fine("table(2, 2)", () -> x.table(2, 2));
        check.due("count(3)", 11, () -> x.count(3));
    }

    private static void tableRefuses() {
        check.part("11 table refuses");
        check.refused("table(1, 3) on nothing", STATE, PromisesTest::fourLabels, x -> x.table(1, 3));
        check.refused("table(0, 1): as many comes before the TYPE 1", UNSUPPORTED,
                PromisesTest::fourLabels, x -> x.table(0, 1));
        Check.Scene ready = () -> with(fourLabels(), 3, 1);
        check.refused("table(1, 3): m can't be taken", STATE, ready, x -> x.table(1, 3));
        check.refused("table(3, 1): l can't be taken", STATE, ready, x -> x.table(3, 1));
        check.refused("table(3, 3): neither can be taken", STATE, ready, x -> x.table(3, 3));
        check.refused("table(0, 3)", UNSUPPORTED, ready, x -> x.table(0, 3));
        check.refused("table(3, 2)", UNSUPPORTED, ready, x -> x.table(3, 2));
        check.refused("table(4, 0)", NO_ELEMENT, ready, x -> x.table(4, 0));
        check.refused("table(0, 4)", NO_ELEMENT, ready, x -> x.table(0, 4));
        check.refused("table(-1, 0)", NO_ELEMENT, ready, x -> x.table(-1, 0));
        check.refused("table(1, -1)", NO_ELEMENT, ready, x -> x.table(1, -1));
        check.refused("table(1, MIN)", NO_ELEMENT, ready, x -> x.table(1, MIN));
        check.fine("table(1, 1)", ready, x -> x.table(1, 1));
        check.refused("table(0, 1) in dead code", UNSUPPORTED, () -> dead(fourLabels()), x -> x.table(0, 1));
        check.refused("table(1, 3) in dead code", STATE,
                () -> with(dead(fourLabels()), 3, 1), x -> x.table(1, 3));
        check.refused("table(0, 0) without a TYPE 1", STATE, () -> with(dead(fourLabels()), 3), x -> x.table(0, 0));
    }

    /** Labels 0 to 3 want nothing, a 3, nothing and a 2. */
    private static TypeStack fourLabels() {
        TypeStack x = begun(2);
        x.block(LOOP, 0, 3);
        x.block(BLOCK, 0, 3);
        x.block(LOOP, 0, 2);
        return x;
    }

    private static void back() {
        check.part("12 back");
        TypeStack x = begun(list(2, 3));
        check.refused(x, "back() with nothing", STATE, x::back);
        x.apply(0, list(4, 2, 3));
        x.block(LOOP, 3, 4);
        check.refused(x, "back() with what is below the floor", STATE, x::back);
        x.apply(3, list(1, 2, 3));
        check.fine("back() with more than is left", x::back);
        stack(x, "42");
        frame(x, 0, "1,3,4,2,1,3");
        frame(x, 1, "0,0,13,0,0,13");
        check.fine("back() in dead code", x::back);
        x.apply(0, 2);
        check.refused(x, "back() with the wrong one in dead code", STATE, x::back);
        x.apply(2, 3);
        check.fine("back() with half of it in dead code", x::back);
        stack(x, "42");
        x.end();
        check.refused(x, "back() with the wrong one", STATE, x::back);
    }

    private static void never() {
        check.part("13 never");
        TypeStack x = holding(4, 2);
        x.block(BLOCK, 2, 0);
        x.apply(0, list(3, 3));
        check.fine("never()", x::never);
        stack(x, "4");
        frame(x, 0, "0,2,0,1,1,0");
        frame(x, 1, "0,0,0,0,0,0");
        check.fine("never() again", x::never);
        check.due("end()", 1, x::end);
        check.fine("never() in the outermost", x::never);
        stack(x, "");
        frame(x, 0, "0,0,0,0,1,0");
        check.due("count(3)", 8, () -> x.count(3));
    }

    private static void top() {
        check.part("14 top");
        TypeStack x = holding(4, 3, 2, 1);
        for (int i = 0; i < 4; i++) {
            int below = i;
            check.due("top(" + i + ")", i + 1, () -> x.top(below));
        }
        x.block(BLOCK, 0, 0);
        check.due("top(0) below the floor", 1, () -> x.top(0));
        x.never();
        check.due("top(0) in dead code", 1, () -> x.top(0));
        x.select();
        check.due("top(0) of ANY", 0, () -> x.top(0));
        check.due("top(4)", 4, () -> x.top(4));
        int[] nothing = {5, 6, 299, 300, 301, Integer.MAX_VALUE, -1, -2, Integer.MIN_VALUE};
        for (int i : nothing) {
            check.due("top(" + i + ")", -1, () -> x.top(i));
        }
        TypeStack full = filled(0);
        full.drop();
        full.apply(0, 3);
        check.due("top(0) of 300", 3, () -> full.top(0));
        check.due("top(299) of 300", 1, () -> full.top(299));
        check.due("top(300) of 300", -1, () -> full.top(300));
    }

    private static void frame() {
        check.part("15 frame");
        TypeStack x = begun(list(4, 4));
        x.apply(0, list(2, 3));
        x.block(LOOP, 3, 4);
        x.apply(0, 1);
        x.block(IF, 0, 2);
        frame(x, 0, "2,0,2,2,0,2");
        frame(x, 1, "1,3,4,1,0,3");
        frame(x, 2, "0,0,24,0,0,24");
        int[] noLabels = {3, 4, 40, Integer.MAX_VALUE, -1, Integer.MIN_VALUE};
        for (int l : noLabels) {
            check.refused("frame(" + l + ", 0)", NO_ELEMENT, () -> nested(3), y -> y.frame(l, 0));
            check.refused("frame(" + l + ", 6)", NO_ELEMENT, () -> nested(3), y -> y.frame(l, 6));
        }
        int[] noWhats = {6, 7, -1, Integer.MAX_VALUE, Integer.MIN_VALUE};
        for (int what : noWhats) {
            check.refused("frame(2, " + what + ")", ARGUMENT, () -> nested(3), y -> y.frame(2, what));
        }
        x.never();
        frame(x, 0, "2,0,2,2,1,2");
        x.otherwise();
        frame(x, 0, "3,0,2,2,0,2");
    }

    private static void count() {
        check.part("16 count");
        TypeStack x = begun(1);
        x.apply(0, list(1, 2, 3));
        x.apply(list(2, 3), 0);
        check.due("count(0)", 1, () -> x.count(0));
        check.due("count(1)", 1, () -> x.count(1));
        check.due("count(2)", 3, () -> x.count(2));
        check.due("count(3)", 2, () -> x.count(3));
        check.refused(x, "apply(2, 0)", STATE, () -> x.apply(2, 0));
        check.due("count(3) behind a refusal", 2, () -> x.count(3));
        x.top(0);
        x.frame(0, 0);
        check.due("count(3) behind questions", 2, () -> x.count(3));
        int[] others = {4, 5, -1, Integer.MAX_VALUE, Integer.MIN_VALUE};
        for (int what : others) {
            check.due("count(" + what + ")", -1, () -> x.count(what));
        }
        everyInstructionCounts();
        greatestHeightOfDeadCode();
    }

    private static void everyInstructionCounts() {
        TypeStack x = new TypeStack();
        int done = 0;
        Check.Act[] acts = {
            () -> x.apply(0, list(1, 1, 1)), x::select, x::drop, () -> x.apply(0, list(1, 1)),
            () -> x.leapIf(0), () -> x.block(IF, 0, 0), x::otherwise, x::end, () -> x.apply(0, 1),
            () -> x.table(0, 0), () -> x.leap(0), x::back, x::never, x::end};
        for (Check.Act act : acts) {
            act.run();
            done++;
            check.due("count(3)", done, () -> x.count(3));
        }
        check.fine("begin(0)", () -> x.begin(0));
        check.due("count(3) behind begin", 0, () -> x.count(3));
    }

    /** In dead code an instruction may put more than it took: that too counts as height. */
    private static void greatestHeightOfDeadCode() {
        TypeStack x = begun(list(1, 2));
        x.never();
        x.select();
        check.due("count(2) behind select", 1, () -> x.count(2));
        x.never();
        x.leapIf(0);
        check.due("count(2) behind leapIf", 2, () -> x.count(2));
        x.never();
        x.block(LOOP, list(1, 2, 3), list(1, 2, 3, 4));
        check.due("count(2) behind block", 3, () -> x.count(2));
        x.never();
        x.end();
        check.due("count(2) behind end", 4, () -> x.count(2));
        x.never();
        check.due("count(2) behind never", 4, () -> x.count(2));
        check.due("count(0) behind never", 0, () -> x.count(0));
    }

    private static void afterTheLastEnd() {
        check.part("8 after the last end");
        TypeStack x = begun(list(1, 1));
        x.apply(0, list(1, 1));
        x.end();
        check.refused(x, "apply(0, 0)", NO_ELEMENT, () -> x.apply(0, 0));
        check.refused(x, "apply(0, 5)", ARGUMENT, () -> x.apply(0, 5));
        check.refused(x, "drop()", NO_ELEMENT, x::drop);
        check.refused(x, "select()", NO_ELEMENT, x::select);
        check.refused(x, "block(0, 0, 0)", NO_ELEMENT, () -> x.block(BLOCK, 0, 0));
        check.refused(x, "block(3, 0, 0)", ARGUMENT, () -> x.block(3, 0, 0));
        check.refused(x, "block(0, 5, 0)", ARGUMENT, () -> x.block(BLOCK, 5, 0));
        check.refused(x, "otherwise()", NO_ELEMENT, x::otherwise);
        check.refused(x, "end()", NO_ELEMENT, x::end);
        check.refused(x, "leap(0)", NO_ELEMENT, () -> x.leap(0));
        check.refused(x, "leapIf(0)", NO_ELEMENT, () -> x.leapIf(0));
        check.refused(x, "table(0, 0)", NO_ELEMENT, () -> x.table(0, 0));
        check.refused(x, "back()", NO_ELEMENT, x::back);
        check.refused(x, "never()", NO_ELEMENT, x::never);
        check.refused(x, "frame(0, 0)", NO_ELEMENT, () -> x.frame(0, 0));
        check.refused(x, "begin(5)", ARGUMENT, () -> x.begin(5));
        check.due("top(0)", 1, () -> x.top(0));
        check.due("count(0)", 2, () -> x.count(0));
        check.fine("begin(4)", () -> x.begin(4));
        check.due("the state", Check.state(x), "counts 0 1 0 0 stack[] frames (0,0,4,0,0,4)");
    }
}
