import java.util.HashSet;
import java.util.Set;

/**
 * The document's "Terms", and what stands above them: each sentence that names a boundary has a test
 * of its own here, which bears the sentence's words.
 */
public final class TermEdgesTest extends Scenes {
    private static final Check check = new Check();

    public static void main(String[] args) {
        atMost512Calls();
        typesOneToFour();
        zeroIsAny();
        listOfUpToSixTypes();
        lastTypeIsTheLowestDigit();
        zeroIsNone();
        stackOfAtMost300ByApply();
        stackOfAtMost300BySelect();
        stackOfAtMost300ByBlock();
        stackOfAtMost300ByOtherwise();
        stackOfAtMost300ByEnd();
        stackOfAtMost300ByLeapIf();
        stackOfAtMost300WithAny();
        atMost40Frames();
        kinds();
        floorWithoutWhatItTook();
        floorInDeadCode();
        labels();
        noSuchLabel();
        wants();
        takeAboveTheFloor();
        takeThatTypeOrAny();
        takeFromADeadFrame();
        elseItCannotBe();
        takeAListLastFirst();
        put();
        die();
        deadAlone();
        check.finish();
    }

    private static void stack(TypeStack x, String want) {
        check.due("the stack", Check.stack(x), "[" + want + "]");
    }

    private static void frame(TypeStack x, int l, String want) {
        check.due("frame " + l, Check.frame(x, l), "(" + want + ")");
    }

    private static void atMost512Calls() {
        check.part("An object is used for at most 512 calls");
        TypeStack x = new TypeStack();
        for (int i = 1; i <= 511; i++) {
            x.never();
        }
        check.due("count(3) as the 512th call", 511, () -> x.count(3));
        TypeStack refusing = new TypeStack();
        for (int i = 1; i <= 511; i++) {
            check.due("drop()", Check.outcome(() -> refusing.drop()), "throws.IllegalStateException");
        }
        check.due("apply(0, 1) as the 512th call", 1, () -> refusing.apply(0, 1));
    }

    private static void typesOneToFour() {
        check.part("TYPES 1 .. 4");
        for (int type = 1; type <= 4; type++) {
            TypeStack x = new TypeStack();
            int one = type;
            check.due("apply(0, " + type + ")", 1, () -> x.apply(0, one));
            check.due("top(0)", type, () -> x.top(0));
            check.due("drop()", type, x::drop);
        }
        check.refused("apply(0, -1)", ARGUMENT, TypeStack::new, x -> x.apply(0, -1));
        check.refused("apply(0, 5)", ARGUMENT, TypeStack::new, x -> x.apply(0, 5));
    }

    private static void zeroIsAny() {
        check.part("0 is ANY");
        TypeStack x = fencedAndDead(0, 0);
        check.due("select() of nothing in dead code", 0, x::select);
        check.due("count(0)", 1, () -> x.count(0));
        check.due("top(0)", 0, () -> x.top(0));
        check.due("drop()", 0, x::drop);
        check.due("count(0)", 0, () -> x.count(0));
    }

    /** Every number of up to seven digits, and the edges of more, wherever a LIST is asked for. */
    private static void listOfUpToSixTypes() {
        check.part("A LIST of up to 6 TYPES is a number: its digits in base 5, each 1 .. 4");
        Set<Integer> lists = allLists();
        check.due("how many LISTS there are", 1 + 4 + 16 + 64 + 256 + 1024 + 4096, () -> lists.size());
        for (int number = -800; number <= 80000; number++) {
            listOrNot(number, lists.contains(number));
        }
        for (long power = 78125; power <= MAX; power *= 5) {
            for (int i = -1; i <= 1; i++) {
                listOrNot((int) power + i, false);
                listOrNot(-(int) power + i, false);
            }
        }
        listOrNot(MIN, false);
        listOrNot(MIN + 1, false);
        listOrNot(MAX - 1, false);
        listOrNot(MAX, false);
    }

    private static Set<Integer> allLists() {
        Set<Integer> all = new HashSet<>();
        addLists(all, 0, 0);
        return all;
    }

    private static void addLists(Set<Integer> all, int number, int size) {
        all.add(number);
        for (int type = 1; type <= 4 && size < 6; type++) {
            addLists(all, number * 5 + type, size + 1);
        }
    }

    /** In dead code every LIST can be taken, so that only its being none can be refused. */
    private static void listOrNot(int number, boolean isList) {
        TypeStack x = new TypeStack();
        x.never();
        String want = isList ? "nothing" : "throws.IllegalArgumentException";
        check.due("apply(" + number + ", 0)", Check.outcome(() -> { x.apply(number, 0); }), want);
        check.due("apply(0, " + number + ")", Check.outcome(() -> { x.apply(0, number); }), want);
        x.never();
        check.due("block(1, " + number + ", 0)", Check.outcome(() -> { x.block(LOOP, number, 0); }), want);
        check.due("block(0, 0, " + number + ")", Check.outcome(() -> { x.block(BLOCK, 0, number); }), want);
        check.due("begin(" + number + ")", Check.outcome(() -> x.begin(number)), want);
    }

    private static void lastTypeIsTheLowestDigit() {
        check.part("the last TYPE the lowest digit");
        TypeStack x = new TypeStack();
        check.due("apply(0, 5182)", 6, () -> x.apply(0, 1 * 3125 + 3 * 625 + 1 * 125 + 2 * 25 + 1 * 5 + 2));
        stack(x, "131212");
        TypeStack greatest = new TypeStack();
        check.due("apply(0, 15624)", 6, () -> greatest.apply(0, 15624));
        stack(greatest, "444444");
        TypeStack least = new TypeStack();
        check.due("apply(0, 3906)", 6, () -> least.apply(0, 3906));
        stack(least, "111111");
        check.due("apply(6, 0)", 4, () -> least.apply(6, 0));
        check.due("apply(0, 9)", 6, () -> least.apply(0, 9));
        stack(least, "111114");
    }

    private static void zeroIsNone() {
        check.part("0 is none");
        TypeStack x = holding(3);
        check.due("apply(0, 0)", 1, () -> x.apply(0, 0));
        check.due("block(0, 0, 0)", 2, () -> x.block(BLOCK, 0, 0));
        frame(x, 0, "0,0,0,1,0,0");
        check.fine("leap(0)", () -> x.leap(0));
        check.due("end()", 1, x::end);
        stack(x, "3");
    }

    private static void stackOfAtMost300ByApply() {
        check.part("THE STACK: at most 300: apply");
        check.answers("apply(0, 1) on 299", 300, () -> ones(299, 0), x -> x.apply(0, 1));
        check.refused("apply(0, 1) on 300", TOO_MANY, () -> ones(300, 0), x -> x.apply(0, 1));
        check.answers("apply(0, six) on 294", 300, () -> ones(294, 0), x -> x.apply(0, SIX_ONES));
        check.refused("apply(0, six) on 295", TOO_MANY, () -> ones(295, 0), x -> x.apply(0, SIX_ONES));
        check.answers("apply(1, six) on 295", 300, () -> ones(295, 0), x -> x.apply(1, SIX_ONES));
        check.refused("apply(1, six) on 296", TOO_MANY, () -> ones(296, 0), x -> x.apply(1, SIX_ONES));
        check.answers("apply(six, six) on 300", 300, () -> ones(300, 0), x -> x.apply(SIX_ONES, SIX_ONES));
        check.answers("apply(0, 0) on 300", 300, () -> ones(300, 0), x -> x.apply(0, 0));
        check.answers("apply(1, 1) in dead code on 299", 300, () -> fencedAndDead(299, 0), x -> x.apply(1, 1));
        check.refused("apply(1, 1) in dead code on 300", TOO_MANY, () -> filledAndDead(0), x -> x.apply(1, 1));
    }

    private static void stackOfAtMost300BySelect() {
        check.part("THE STACK: at most 300: select");
        check.answers("select() on 300", 1, () -> ones(300, 0), x -> x.select());
        check.answers("select() in dead code on 299", 0, () -> fencedAndDead(299, 0), x -> x.select());
        check.refused("select() in dead code on 300", TOO_MANY, () -> filledAndDead(0), x -> x.select());
        TypeStack x = fencedAndDead(299, 0);
        x.apply(0, 1);
        check.due("select() in dead code with the TYPE 1 as the 300th", 0, x::select);
        check.due("count(0)", 300, () -> x.count(0));
    }

    private static void stackOfAtMost300ByBlock() {
        check.part("THE STACK: at most 300: block");
        check.answers("block(0, six, 0) on 300", 2, () -> ones(300, 0), x -> x.block(BLOCK, SIX_ONES, 0));
        check.answers("block(0, six, 0) in dead code on 294", 3,
                () -> fencedAndDead(294, 0), x -> x.block(BLOCK, SIX_ONES, 0));
        check.refused("block(0, six, 0) in dead code on 295", TOO_MANY,
                () -> fencedAndDead(295, 0), x -> x.block(BLOCK, SIX_ONES, 0));
        check.refused("block(1, 1, 0) in dead code on 300", TOO_MANY,
                () -> filledAndDead(0), x -> x.block(LOOP, 1, 0));
        check.refused("block(2, 1, 0) in dead code on 300", TOO_MANY,
                () -> filledAndDead(0), x -> x.block(IF, 1, 0));
        check.answers("block(2, 0, six) in dead code on 300", 3,
                () -> filledAndDead(0), x -> x.block(IF, 0, SIX_ONES));
    }

    private static void stackOfAtMost300ByOtherwise() {
        check.part("THE STACK: at most 300: otherwise");
        TypeStack x = fencedAndDead(294, 0);
        x.block(IF, SIX_ONES, 0);
        check.due("count(0)", 300, () -> x.count(0));
        x.never();
        check.fine("otherwise()", x::otherwise);
        check.due("count(0)", 300, () -> x.count(0));
    }

    private static void stackOfAtMost300ByEnd() {
        check.part("THE STACK: at most 300: end");
        check.answers("end() with six on 294", 1, () -> fencedAndDead(294, SIX_ONES), x -> x.end());
        check.refused("end() with six on 295", TOO_MANY, () -> fencedAndDead(295, SIX_ONES), x -> x.end());
        check.answers("end() with one on 299", 1, () -> fencedAndDead(299, 1), x -> x.end());
        check.refused("end() with one on 300", TOO_MANY, () -> filledAndDead(1), x -> x.end());
        check.answers("end() with none on 300", 1, () -> filledAndDead(0), x -> x.end());
        TypeStack live = fenced(299, 2);
        live.apply(0, 2);
        check.due("end() that takes the 300th and puts it", 1, live::end);
        check.due("count(0)", 300, () -> live.count(0));
    }

    private static void stackOfAtMost300ByLeapIf() {
        check.part("THE STACK: at most 300: leapIf");
        check.answers("leapIf(0) on 300", 299, () -> ones(300, SIX_ONES), x -> x.leapIf(0));
        check.answers("leapIf(0) in dead code on 294", 300,
                () -> fencedAndDead(294, SIX_ONES), x -> x.leapIf(0));
        check.refused("leapIf(0) in dead code on 295", TOO_MANY,
                () -> fencedAndDead(295, SIX_ONES), x -> x.leapIf(0));
        check.refused("leapIf(0) in dead code on 300", TOO_MANY, () -> filledAndDead(1), x -> x.leapIf(0));
        check.answers("leapIf(1) that puts nothing on 300", 300, () -> filledAndDead(1), x -> x.leapIf(1));
    }

    private static void stackOfAtMost300WithAny() {
        check.part("THE STACK: at most 300 TYPES or ANY");
        check.answers("count(0)", 300, TermEdgesTest::fullWithAny, x -> x.count(0));
        check.answers("top(260), ANY", 0, TermEdgesTest::fullWithAny, x -> x.top(260));
        check.answers("top(299), ANY", 0, TermEdgesTest::fullWithAny, x -> x.top(299));
        check.refused("apply(0, 1)", TOO_MANY, TermEdgesTest::fullWithAny, x -> x.apply(0, 1));
    }

    /** An ANY on the floor of each of 40 dead frames, and 260 TYPES 1 upon them. */
    private static TypeStack fullWithAny() {
        TypeStack x = new TypeStack();
        x.never();
        x.select();
        for (int i = 2; i <= 40; i++) {
            x.block(BLOCK, 0, 0);
            x.never();
            x.select();
        }
        putOnes(x, 260);
        return x;
    }

    private static void atMost40Frames() {
        check.part("there would be more than 40 FRAMES");
        for (int kind = BLOCK; kind <= LOOP; kind++) {
            int which = kind;
            check.answers("block(" + kind + ", 0, 0) as the 40th", 40, () -> nested(39), x -> x.block(which, 0, 0));
            check.refused("block(" + kind + ", 0, 0) as the 41st", TOO_MANY,
                    () -> nested(40), x -> x.block(which, 0, 0));
        }
        check.answers("block(2, 0, 0) as the 40th", 40, () -> with(nested(39), 1), x -> x.block(IF, 0, 0));
        check.refused("block(2, 0, 0) as the 41st", TOO_MANY, () -> with(nested(40), 1), x -> x.block(IF, 0, 0));
        check.refused("block(0, 0, 0) as the 41st in dead code", TOO_MANY,
                () -> dead(nested(40)), x -> x.block(BLOCK, 0, 0));
        TypeStack x = dead(nested(40));
        check.due("end()", 39, x::end);
        check.due("block(0, 0, 0) where one has ended", 40, () -> x.block(BLOCK, 0, 0));
        check.due("block(0, 0, 0) as the 41st again",
                Check.outcome(() -> x.block(BLOCK, 0, 0)), "throws.ArithmeticException");
        x.begin(0);
        check.due("block(0, 0, 0) behind begin", 2, () -> x.block(BLOCK, 0, 0));
    }

    private static void kinds() {
        check.part("a KIND (0 block, 1 loop, 2 if, 3 else)");
        for (int kind = BLOCK; kind <= IF; kind++) {
            TypeStack x = holding(1);
            x.block(kind, 0, 0);
            check.due("frame(0, 0)", kind, () -> x.frame(0, 0));
            check.due("frame(1, 0): the outermost is a block", BLOCK, () -> x.frame(1, 0));
        }
        TypeStack x = inIf(0, 0);
        x.otherwise();
        check.due("frame(0, 0)", ELSE, () -> x.frame(0, 0));
    }

    private static void floorWithoutWhatItTook() {
        check.part("a FLOOR (how many were on THE STACK below it when it began, without what it took)");
        int[] takes = {0, 3, list(2, 3), list(1, 2, 3)};
        for (int size = 0; size < takes.length; size++) {
            TypeStack x = holding(1, 2, 3);
            x.block(BLOCK, takes[size], 0);
            int floor = 3 - size;
            check.due("frame(0, 3) when it took " + size + " of 3", floor, () -> x.frame(0, 3));
            check.due("frame(1, 3)", 0, () -> x.frame(1, 3));
            check.due("count(0)", 3, () -> x.count(0));
        }
        TypeStack six = holding(1, 2, 3, 4, 3, 2);
        six.block(LOOP, list(1, 2, 3, 4, 3, 2), 0);
        check.due("frame(0, 3) when it took 6 of 6", 0, () -> six.frame(0, 3));
        TypeStack branch = holding(2, 3, 1);
        branch.block(IF, 3, 0);
        check.due("frame(0, 3) of an if, the TYPE 1 and 1 of 3", 1, () -> branch.frame(0, 3));
        check.answers("frame(0, 3) on 300", 300, () -> fenced(300, 0), x -> x.frame(0, 3));
        TypeStack grown = fenced(2, 0);
        grown.apply(0, list(3, 3));
        grown.drop();
        check.due("frame(0, 3) when more lies there", 2, () -> grown.frame(0, 3));
    }

    private static void floorInDeadCode() {
        check.part("a FLOOR, where a DEAD FRAME gave what was taken");
        TypeStack none = fencedAndDead(2, 0);
        none.block(BLOCK, list(3, 3, 3), 0);
        check.due("frame(0, 3) when nothing lay there", 2, () -> none.frame(0, 3));
        stack(none, "11333");
        TypeStack half = fencedAndDead(2, 0);
        half.apply(0, list(4, 3));
        half.block(LOOP, 3, 0);
        check.due("frame(0, 3) when more lay there", 3, () -> half.frame(0, 3));
        half.apply(3, 4);
        half.never();
        half.block(IF, list(4, 4), 0);
        check.due("frame(0, 3) of an if when nothing lay there", 3, () -> half.frame(0, 3));
        stack(half, "11444");
    }

    private static void labels() {
        check.part("LABEL l: the FRAME that is l further out than the innermost (0: that)");
        TypeStack x = new TypeStack();
        for (int i = 1; i < 40; i++) {
            x.apply(0, 1);
            x.block(BLOCK, 0, 0);
        }
        for (int l = 0; l < 40; l++) {
            int label = l;
            check.due("frame(" + l + ", 3)", 39 - l, () -> x.frame(label, 3));
        }
        check.refused("frame(40, 3)", NO_ELEMENT, () -> nested(40), y -> y.frame(40, 3));
        check.refused("frame(-1, 3)", NO_ELEMENT, () -> nested(40), y -> y.frame(-1, 3));
    }

    private static void noSuchLabel() {
        check.part("no such LABEL");
        check.fine("leap(39) of 40", () -> nested(40), x -> x.leap(39));
        check.answers("leapIf(39) of 40", 0, () -> with(nested(40), 1), x -> x.leapIf(39));
        check.fine("table(39, 39) of 40", () -> with(nested(40), 1), x -> x.table(39, 39));
        check.answers("frame(39, 0) of 40", 0, () -> nested(40), x -> x.frame(39, 0));
        int[] wrong = {MIN, MIN + 1, -40, -1, 40, 41, MAX - 1, MAX};
        for (int l : wrong) {
            Check.Scene scene = () -> with(nested(40), 1);
            check.refused("leap(" + l + ")", NO_ELEMENT, scene, x -> x.leap(l));
            check.refused("leapIf(" + l + ")", NO_ELEMENT, scene, x -> x.leapIf(l));
            check.refused("table(" + l + ", 0)", NO_ELEMENT, scene, x -> x.table(l, 0));
            check.refused("table(0, " + l + ")", NO_ELEMENT, scene, x -> x.table(0, l));
            check.refused("frame(" + l + ", 0)", NO_ELEMENT, scene, x -> x.frame(l, 0));
        }
        check.refused("leap(1) of 1", NO_ELEMENT, TypeStack::new, x -> x.leap(1));
        check.refused("leap(0) of none", NO_ELEMENT, () -> over(0), x -> x.leap(0));
    }

    private static void wants() {
        check.part("it WANTS what it takes, if it is a loop, else what it leaves");
        for (int kind = BLOCK; kind <= IF; kind++) {
            TypeStack x = holding(2, 1);
            x.block(kind, kind == IF ? 2 : 1, 3);
            int due = kind == LOOP ? 1 : 3;
            check.due("frame(0, 5) of KIND " + kind, due, () -> x.frame(0, 5));
            x.drop();
            x.apply(0, due);
            check.fine("leap(0) to KIND " + kind, () -> x.leap(0));
        }
        TypeStack x = inIf(2, 3);
        x.never();
        x.otherwise();
        check.due("frame(0, 5) of KIND 3", 3, () -> x.frame(0, 5));
        check.refused(x, "leap(0) to an else with what it takes", STATE, () -> x.leap(0));
        TypeStack loop = holding(2);
        loop.block(LOOP, 2, 3);
        check.fine("leap(0) to a loop with what it takes", () -> loop.leap(0));
        loop.apply(0, 3);
        check.refused(loop, "leap(0) to a loop with what it leaves", STATE, () -> loop.leap(0));
    }

    private static void takeAboveTheFloor() {
        check.part("what is on top goes, if it lies above the innermost FRAME's FLOOR");
        TypeStack x = fenced(2, 0);
        x.apply(0, 1);
        check.due("drop() of the one above the floor", 1, x::drop);
        check.refused(x, "drop() on the floor", STATE, x::drop);
        check.refused(x, "apply(1, 0) on the floor", STATE, () -> x.apply(1, 0));
        check.due("end()", 1, x::end);
        check.due("drop() where that was the floor", 1, x::drop);
        TypeStack within = holding(4, 3);
        within.block(BLOCK, 3, 0);
        check.due("apply(3, 0) of what the FRAME took", 1, () -> within.apply(3, 0));
        check.refused(within, "apply(4, 0) of what it did not take", STATE, () -> within.apply(4, 0));
    }

    private static void takeThatTypeOrAny() {
        check.part("it must be that TYPE or ANY");
        for (int wanted = 1; wanted <= 4; wanted++) {
            int in = wanted;
            for (int found = 1; found <= 4; found++) {
                int there = found;
                String call = "apply(" + wanted + ", 0) of a " + found;
                if (wanted == found) {
                    check.answers(call, 0, () -> holding(there), x -> x.apply(in, 0));
                } else {
                    check.refused(call, STATE, () -> holding(there), x -> x.apply(in, 0));
                }
            }
            check.answers("apply(" + wanted + ", 0) of ANY", 2, TermEdgesTest::anyOnTwo, x -> x.apply(in, 0));
        }
    }

    private static TypeStack anyOnTwo() {
        TypeStack x = fencedAndDead(2, 0);
        x.select();
        return x;
    }

    private static void takeFromADeadFrame() {
        check.part("else, if the FRAME is DEAD, nothing goes, and that is as if ANY had");
        TypeStack x = fencedAndDead(2, 0);
        check.due("drop()", 0, x::drop);
        for (int type = 1; type <= 4; type++) {
            int in = type;
            check.due("apply(" + type + ", 0)", 2, () -> x.apply(in, 0));
        }
        check.due("apply(444444, 0)", 2, () -> x.apply(15624, 0));
        check.due("apply(0, 3)", 3, () -> x.apply(0, 3));
        check.refused(x, "apply(4, 0) of a 3 that lies there", STATE, () -> x.apply(4, 0));
        check.due("apply(43, 0): the 3 goes, then nothing", 2, () -> x.apply(list(4, 3), 0));
        stack(x, "11");
    }

    private static void elseItCannotBe() {
        check.part("else it can't be");
        check.refused("drop() of nothing", STATE, TypeStack::new, x -> x.drop());
        check.refused("apply(1, 0) of nothing", STATE, TypeStack::new, x -> x.apply(1, 0));
        check.refused("select() of nothing", STATE, TypeStack::new, x -> x.select());
        check.refused("block(0, 1, 0) of nothing", STATE, TypeStack::new, x -> x.block(BLOCK, 1, 0));
        check.refused("block(2, 0, 0) of nothing", STATE, TypeStack::new, x -> x.block(IF, 0, 0));
        check.refused("otherwise() of nothing", STATE, () -> inIf(0, 1), x -> x.otherwise());
        check.refused("end() of nothing", STATE, () -> begun(1), x -> x.end());
        check.refused("leap(0) of nothing", STATE, () -> begun(1), x -> x.leap(0));
        check.refused("leapIf(0) of nothing", STATE, TypeStack::new, x -> x.leapIf(0));
        check.refused("table(0, 0) of nothing", STATE, TypeStack::new, x -> x.table(0, 0));
        check.refused("back() of nothing", STATE, () -> begun(1), x -> x.back());
    }

    private static void takeAListLastFirst() {
        check.part("TO TAKE a LIST: its last TYPE first");
        check.answers("apply(123, 0) of 4 1 2 3", 1, () -> holding(4, 1, 2, 3), x -> x.apply(list(1, 2, 3), 0));
        check.refused("apply(321, 0) of 4 1 2 3", STATE, () -> holding(4, 1, 2, 3), x -> x.apply(list(3, 2, 1), 0));
        check.refused("apply(412, 0) of 4 1 2 3", STATE, () -> holding(4, 1, 2, 3), x -> x.apply(list(4, 1, 2), 0));
        check.refused("apply(223, 0): all but its first", STATE,
                () -> holding(4, 1, 2, 3), x -> x.apply(list(2, 2, 3), 0));
        check.refused("apply(12, 0) of a 2 alone", STATE, () -> holding(2), x -> x.apply(list(1, 2), 0));
        check.answers("apply(12, 0) of a 2 in dead code", 1,
                () -> with(fencedAndDead(1, 0), 2), x -> x.apply(list(1, 2), 0));
        check.refused("apply(12, 0) of a 1 in dead code", STATE,
                () -> with(fencedAndDead(1, 0), 1), x -> x.apply(list(1, 2), 0));
        check.answers("apply(123412, 0) of just that", 0,
                () -> holding(1, 2, 3, 4, 1, 2), x -> x.apply(list(1, 2, 3, 4, 1, 2), 0));
    }

    private static void put() {
        check.part("TO PUT: it lies on top then");
        TypeStack x = holding(4);
        x.apply(0, list(1, 2, 3));
        stack(x, "4123");
        x.apply(3, list(2, 4));
        stack(x, "41224");
        TypeStack any = anyOnTwo();
        stack(any, "110");
    }

    private static void die() {
        check.part("TO DIE: all above the innermost FRAME's FLOOR goes, and it is DEAD");
        TypeStack x = fenced(2, 0);
        frame(x, 0, "0,0,0,2,0,0");
        check.fine("never() with nothing above the floor", x::never);
        frame(x, 0, "0,0,0,2,1,0");
        stack(x, "11");
        x.apply(0, list(3, 3, 3));
        check.fine("never() in a DEAD FRAME", x::never);
        frame(x, 0, "0,0,0,2,1,0");
        stack(x, "11");
        check.answers("count(0) behind never() on 300", 0, () -> dead(ones(300, 0)), y -> y.count(0));
        check.answers("count(0) behind never() above a floor of 299", 299,
                () -> dead(with(fenced(299, 0), 2)), y -> y.count(0));
    }

    private static void deadAlone() {
        check.part("it is DEAD: the innermost FRAME alone");
        TypeStack x = nested(3);
        x.never();
        check.due("frame(0, 4)", 1, () -> x.frame(0, 4));
        check.due("frame(1, 4)", 0, () -> x.frame(1, 4));
        check.due("frame(2, 4)", 0, () -> x.frame(2, 4));
        x.block(BLOCK, 0, 0);
        check.due("frame(0, 4) of one that begins within it", 0, () -> x.frame(0, 4));
        check.refused(x, "drop() in that one", STATE, x::drop);
        x.end();
        check.due("frame(0, 4) behind its end", 1, () -> x.frame(0, 4));
        check.due("drop()", 0, x::drop);
        x.end();
        check.due("frame(0, 4) of the one around", 0, () -> x.frame(0, 4));
        check.refused(x, "drop() in the one around", STATE, x::drop);
    }
}
