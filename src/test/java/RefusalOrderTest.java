/**
 * "The first of these that its line names; then nothing changes. (In the order of its line, from the
 * left.)" For each instruction: states in which more than one of its exceptions would be due, a test
 * for each two of them that can meet. Check.refused looks at the whole state behind the refusal too.
 */
public final class RefusalOrderTest extends Scenes {
    private static final Check check = new Check();

    public static void main(String[] args) {
        begin();
        apply();
        drop();
        select();
        block();
        blockAsThe41st();
        otherwise();
        end();
        leap();
        leapIf();
        table();
        back();
        never();
        frame();
        wrongLabelInDeadCode();
        check.finish();
    }

    private static void begin() {
        check.part("begin: IllegalArgumentException");
        for (int wrong : NO_LISTS) {
            check.refused("begin(" + wrong + ")", ARGUMENT, () -> dead(with(nested(3), 2, 3)), x -> x.begin(wrong));
            check.refused("begin(" + wrong + ") behind the end", ARGUMENT, () -> over(2), x -> x.begin(wrong));
        }
    }

    private static void apply() {
        check.part("apply: argument, element, state, arithmetic");
        for (int wrong : NO_LISTS) {
            check.refused("apply(" + wrong + ", 0) behind the end", ARGUMENT, () -> over(1), x -> x.apply(wrong, 0));
            check.refused("apply(1, " + wrong + ") behind the end", ARGUMENT, () -> over(1), x -> x.apply(1, wrong));
            check.refused("apply(2, " + wrong + ") of a 1", ARGUMENT, () -> holding(1), x -> x.apply(2, wrong));
            check.refused("apply(" + wrong + ", 1) on 300", ARGUMENT, () -> filled(0), x -> x.apply(wrong, 1));
            check.refused("apply(1, " + wrong + ") on 300", ARGUMENT, () -> filled(0), x -> x.apply(1, wrong));
        }
        check.refused("apply(2, 0) behind the end", NO_ELEMENT, () -> over(1), x -> x.apply(2, 0));
        check.refused("apply(1, 1) behind the end", NO_ELEMENT, () -> over(1), x -> x.apply(1, 1));
        check.refused("apply(0, 0) behind the end", NO_ELEMENT, () -> over(1), x -> x.apply(0, 0));
        check.refused("apply(2, 11) on 300", STATE, () -> filled(0), x -> x.apply(2, list(1, 1)));
        check.refused("apply(21, 111) on 300", STATE, () -> filled(0), x -> x.apply(list(2, 1), list(1, 1, 1)));
        check.refused("apply(1, 11) on a floor of 300", STATE, () -> fenced(300, 0), x -> x.apply(1, list(1, 1)));
        check.refused("apply(1, 11) on 300", TOO_MANY, () -> filled(0), x -> x.apply(1, list(1, 1)));
    }

    private static void drop() {
        check.part("drop: element, state");
        check.refused("drop() behind the end", NO_ELEMENT, () -> over(0), x -> x.drop());
        check.refused("drop() of one behind the end", NO_ELEMENT, () -> over(3), x -> x.drop());
        check.refused("drop() of nothing", STATE, TypeStack::new, x -> x.drop());
    }

    private static void select() {
        check.part("select: element, state, unsupported, arithmetic");
        check.refused("select() behind the end", NO_ELEMENT, () -> over(0), x -> x.select());
        check.refused("select() of three behind the end", NO_ELEMENT, () -> over(list(2, 2, 1)), x -> x.select());
        check.refused("select() of unlike ones behind the end", NO_ELEMENT,
                () -> over(list(2, 3, 1)), x -> x.select());
        check.refused("select() of unlike ones without a TYPE 1", STATE, () -> holding(3, 2, 2), x -> x.select());
        check.refused("select() of TYPE 4 without a TYPE 1", STATE, () -> holding(4, 4, 4), x -> x.select());
        check.refused("select() of one 4", STATE, () -> holding(4, 1), x -> x.select());
        check.refused("select() of one 4 above the floor", STATE, () -> with(fenced(3, 0), 4, 1), x -> x.select());
        check.refused("select() on a floor of 300", STATE, () -> fenced(300, 0), x -> x.select());
        check.refused("select() of 4s up to 300", UNSUPPORTED, () -> with(ones(297, 0), 4, 4, 1), x -> x.select());
        check.refused("select() in dead code on 300", TOO_MANY, () -> filledAndDead(0), x -> x.select());
    }

    private static void block() {
        check.part("block: argument, element, state, arithmetic");
        int[] noKinds = {MIN, -1, 3, 4, MAX};
        for (int kind : noKinds) {
            check.refused("block(" + kind + ", 0, 0) behind the end", ARGUMENT,
                    () -> over(1), x -> x.block(kind, 0, 0));
            check.refused("block(" + kind + ", 2, 0) of a 1", ARGUMENT, () -> holding(1), x -> x.block(kind, 2, 0));
            check.refused("block(" + kind + ", 1, 0) in dead code on 300", ARGUMENT,
                    () -> filledAndDead(0), x -> x.block(kind, 1, 0));
        }
        for (int wrong : NO_LISTS) {
            check.refused("block(0, " + wrong + ", 0) behind the end", ARGUMENT,
                    () -> over(1), x -> x.block(BLOCK, wrong, 0));
            check.refused("block(0, 0, " + wrong + ") behind the end", ARGUMENT,
                    () -> over(1), x -> x.block(BLOCK, 0, wrong));
            check.refused("block(2, " + wrong + ", 0) without a TYPE 1", ARGUMENT,
                    () -> holding(2), x -> x.block(IF, wrong, 0));
            check.refused("block(1, 2, " + wrong + ") of a 1", ARGUMENT,
                    () -> holding(1), x -> x.block(LOOP, 2, wrong));
        }
        check.refused("block(0, 2, 0) behind the end", NO_ELEMENT, () -> over(1), x -> x.block(BLOCK, 2, 0));
        check.refused("block(2, 0, 0) behind the end", NO_ELEMENT, () -> over(1), x -> x.block(IF, 0, 0));
        check.refused("block(0, 1, 0) on a floor of 300", STATE, () -> fenced(300, 0), x -> x.block(BLOCK, 1, 0));
        check.refused("block(0, 1, 0) in dead code on 300", TOO_MANY,
                () -> filledAndDead(0), x -> x.block(BLOCK, 1, 0));
    }

    private static void blockAsThe41st() {
        check.part("block as the 41st: argument, state, arithmetic");
        check.refused("block(3, 0, 0)", ARGUMENT, () -> nested(40), x -> x.block(3, 0, 0));
        check.refused("block(0, 5, 0)", ARGUMENT, () -> nested(40), x -> x.block(BLOCK, 5, 0));
        check.refused("block(0, 0, 5)", ARGUMENT, () -> nested(40), x -> x.block(BLOCK, 0, 5));
        check.refused("block(0, 1, 0) of nothing", STATE, () -> nested(40), x -> x.block(BLOCK, 1, 0));
        check.refused("block(2, 0, 0) of nothing", STATE, () -> nested(40), x -> x.block(IF, 0, 0));
        check.refused("block(0, 0, 0)", TOO_MANY, () -> nested(40), x -> x.block(BLOCK, 0, 0));
        check.refused("block(0, 0, 0) on 300", TOO_MANY, RefusalOrderTest::fullOfBoth, x -> x.block(BLOCK, 0, 0));
        check.refused("block(0, 1, 0) on 300 in dead code", TOO_MANY,
                () -> dead(fullOfBoth()), x -> x.block(BLOCK, 1, 0));
    }

    /** 40 frames, and 300 on the stack below the innermost one. */
    private static TypeStack fullOfBoth() {
        TypeStack x = nested(39);
        putOnes(x, 300);
        x.block(BLOCK, 0, 0);
        return x;
    }

    private static void otherwise() {
        check.part("otherwise: element, unsupported, state");
        check.refused("otherwise() behind the end", NO_ELEMENT, () -> over(0), x -> x.otherwise());
        check.refused("otherwise() behind the end, with one left", NO_ELEMENT, () -> over(1), x -> x.otherwise());
        check.refused("otherwise() of a block with too few", UNSUPPORTED, () -> fenced(1, 1), x -> x.otherwise());
        check.refused("otherwise() of a block with too many", UNSUPPORTED,
                () -> with(fenced(1, 0), 2), x -> x.otherwise());
        check.refused("otherwise() of the outermost with too few", UNSUPPORTED, () -> begun(2), x -> x.otherwise());
        check.refused("otherwise() of an if with too few", STATE, () -> inIf(0, 1), x -> x.otherwise());
        check.refused("otherwise() of an if with too many", STATE, () -> inIf(3, 0), x -> x.otherwise());
    }

    private static void end() {
        check.part("end: element, unsupported, state, arithmetic");
        check.refused("end() behind the end", NO_ELEMENT, () -> over(0), x -> x.end());
        check.refused("end() behind the end, with one left", NO_ELEMENT, () -> over(2), x -> x.end());
        check.refused("end() of an if that leaves other, with too few", UNSUPPORTED, () -> inIf(0, 1), x -> x.end());
        check.refused("end() of an if that leaves other, with too many", UNSUPPORTED,
                () -> inIf(3, 0), x -> x.end());
        check.refused("end() of an if that leaves other, on 300", UNSUPPORTED,
                RefusalOrderTest::deadIfOn300, x -> x.end());
        check.refused("end() of its else, on 300 and not dead", STATE, () -> {
            TypeStack x = deadIfOn300();
            x.otherwise();
            return x;
        }, x -> x.end());
        check.refused("end() of its else, on 300", TOO_MANY, () -> {
            TypeStack x = deadIfOn300();
            x.otherwise();
            return dead(x);
        }, x -> x.end());
        check.refused("end() of a block on 300 with too few", STATE, () -> fenced(300, 1), x -> x.end());
        check.refused("end() of a block on 300 in dead code", TOO_MANY, () -> filledAndDead(1), x -> x.end());
    }

    /** A dead if that takes nothing and leaves a 1, with 300 below its floor. */
    private static TypeStack deadIfOn300() {
        TypeStack x = filledAndDead(0);
        x.block(IF, 0, 1);
        return dead(x);
    }

    private static void leap() {
        check.part("leap: element, state");
        check.refused("leap(0) behind the end", NO_ELEMENT, () -> over(1), x -> x.leap(0));
        check.refused("leap(1) with too few", NO_ELEMENT, () -> begun(1), x -> x.leap(1));
        check.refused("leap(-1) with too few", NO_ELEMENT, () -> begun(1), x -> x.leap(-1));
        check.refused("leap(0) with too few", STATE, () -> begun(1), x -> x.leap(0));
    }

    private static void leapIf() {
        check.part("leapIf: element, state, arithmetic");
        check.refused("leapIf(0) behind the end", NO_ELEMENT, () -> over(1), x -> x.leapIf(0));
        check.refused("leapIf(1) without a TYPE 1", NO_ELEMENT, TypeStack::new, x -> x.leapIf(1));
        check.refused("leapIf(2) in dead code on 300", NO_ELEMENT, () -> filledAndDead(1), x -> x.leapIf(2));
        check.refused("leapIf(0) without a TYPE 1 on 300", STATE, () -> fenced(300, 1), x -> x.leapIf(0));
        check.refused("leapIf(0) in dead code with a 2 as the 300th", STATE,
                () -> with(fencedAndDead(299, list(1, 1)), 2), x -> x.leapIf(0));
        check.refused("leapIf(0) in dead code with a 1 as the 300th", TOO_MANY,
                () -> with(fencedAndDead(299, list(1, 1)), 1), x -> x.leapIf(0));
    }

    private static void table() {
        check.part("table: element, unsupported, state");
        check.refused("table(0, 0) behind the end", NO_ELEMENT, () -> over(1), x -> x.table(0, 0));
        check.refused("table(0, 2) without a TYPE 1", NO_ELEMENT, () -> fenced(1, 1), x -> x.table(0, 2));
        check.refused("table(2, 0) without a TYPE 1", NO_ELEMENT, () -> fenced(1, 1), x -> x.table(2, 0));
        check.refused("table(0, 1) without a TYPE 1: not as many", UNSUPPORTED,
                () -> fenced(1, 1), x -> x.table(0, 1));
        check.refused("table(1, 0) without a TYPE 1: not as many", UNSUPPORTED,
                () -> fenced(1, 1), x -> x.table(1, 0));
        check.refused("table(0, 1) with a TYPE 1: not as many", UNSUPPORTED,
                () -> with(fenced(1, 2), 2, 1), x -> x.table(0, 1));
        check.refused("table(0, 0) without a TYPE 1", STATE, () -> fenced(1, 1), x -> x.table(0, 0));
        check.refused("table(0, 0) with a TYPE 1 alone", STATE, () -> with(fenced(1, 1), 1), x -> x.table(0, 0));
    }

    private static void back() {
        check.part("back: element, state");
        check.refused("back() behind the end", NO_ELEMENT, () -> over(0), x -> x.back());
        check.refused("back() behind the end, with one left", NO_ELEMENT, () -> over(1), x -> x.back());
        check.refused("back() with too few", STATE, () -> begun(1), x -> x.back());
    }

    private static void never() {
        check.part("never: element");
        check.refused("never() behind the end", NO_ELEMENT, () -> over(0), x -> x.never());
        check.refused("never() behind the end, with one left", NO_ELEMENT, () -> over(1), x -> x.never());
    }

    private static void frame() {
        check.part("frame: element, argument");
        int[] noWhats = {MIN, -1, 6, MAX};
        for (int what : noWhats) {
            check.refused("frame(0, " + what + ") behind the end", NO_ELEMENT, () -> over(0), x -> x.frame(0, what));
            check.refused("frame(1, " + what + ") of 1", NO_ELEMENT, TypeStack::new, x -> x.frame(1, what));
            check.refused("frame(-1, " + what + ")", NO_ELEMENT, TypeStack::new, x -> x.frame(-1, what));
            check.refused("frame(0, " + what + ")", ARGUMENT, TypeStack::new, x -> x.frame(0, what));
        }
    }

    private static void wrongLabelInDeadCode() {
        check.part("no such LABEL, though in dead code all can be taken");
        check.refused("leap(2)", NO_ELEMENT, () -> fencedAndDead(1, 0), x -> x.leap(2));
        check.refused("leapIf(2)", NO_ELEMENT, () -> fencedAndDead(1, 0), x -> x.leapIf(2));
        check.refused("table(0, 2)", NO_ELEMENT, () -> fencedAndDead(1, 0), x -> x.table(0, 2));
        check.refused("table(2, 0)", NO_ELEMENT, () -> fencedAndDead(1, 0), x -> x.table(2, 0));
    }
}
