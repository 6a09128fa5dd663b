import java.util.Arrays;
import java.util.List;
import java.util.function.IntFunction;
import java.util.function.Supplier;

/**
 * "A method that throws an exception changes nothing. If several exceptions apply, the one that is
 * named first is thrown." Each refused call is made on an object of its own, which is compared with
 * one that was made alike and had no such call.
 */
public final class RefusalTest {
    private static final int LOW = Integer.MIN_VALUE;
    private static final int HIGH = Integer.MAX_VALUE;

    /** States with a name, so that a wrong answer tells where it was. */
    private static final class State {
        private final String name;
        private final Supplier<DeltaCodec> maker;

        State(String name, Supplier<DeltaCodec> maker) {
            this.name = name;
            this.maker = maker;
        }
    }

    interface Call {
        double on(DeltaCodec x);
    }

    private static final State NEW = new State("new", DeltaCodec::new);
    private static final State PLANNED = new State("with a plan", RefusalTest::planned);
    private static final State UNPLANNED = new State("without a plan", RefusalTest::unplanned);
    private static final State FULL = new State("full", RefusalTest::full);
    private static final State EMPTY_PLAN = new State("with an empty plan", RefusalTest::emptyPlan);

    private static final List<State> ALL = Arrays.asList(NEW, PLANNED, UNPLANNED, FULL, EMPTY_PLAN);
    private static final List<State> WITH_STRINGS = Arrays.asList(PLANNED, UNPLANNED, FULL);
    private static final List<State> NO_PLAN = Arrays.asList(NEW, UNPLANNED);
    private static final List<State> WITH_PLAN = Arrays.asList(PLANNED, FULL, EMPTY_PLAN);
    private static final List<State> NOT_FULL = Arrays.asList(NEW, PLANNED, UNPLANNED, EMPTY_PLAN);

    /** Source 6, target 12, three instructions, a code of 9, an error and an output. */
    private static DeltaCodec planned() {
        DeltaCodec x = Due.codec("abcdef", "xyabcdefzzzz");
        x.setLeast(4);
        x.plan();
        x.encode();
        x.setCode(1, 'w');
        x.decode();
        return x;
    }

    private static DeltaCodec unplanned() {
        DeltaCodec x = planned();
        x.setLeast(4);
        return x;
    }

    /** Both strings with 150 bytes, a code of 400, an output of 300, an error at 4, a plan of 1. */
    private static DeltaCodec full() {
        DeltaCodec x = new DeltaCodec();
        x.fill(0, 1, 150);
        x.fill(1, 2, 150);
        x.plan();
        Due.code(x, 255, 237, 1, 9);
        for (int size = 4; size < 400; size++) {
            x.appendCode(0);
        }
        x.decode();
        return x;
    }

    private static DeltaCodec emptyPlan() {
        DeltaCodec x = new DeltaCodec();
        x.plan();
        return x;
    }

    private static DeltaCodec sized(int source, int target) {
        DeltaCodec x = new DeltaCodec();
        x.fill(0, 5, source);
        x.fill(1, 6, target);
        x.plan();
        return x;
    }

    public static void main(String[] args) {
        states();
        strings();
        fullStrings();
        matches();
        withoutPlan();
        noSuchInstruction();
        codes();
        output();
        firstNamed();
        laterCalls();
        Due.end();
    }

    private static void states() {
        DeltaCodec x = planned();
        Due.isText("the plan", "0:2:120@0 1:6:0@2 3:4:122@8", Due.plan(x));
        Due.isText("the code", "2 119 121 70 0 196 122 71 168", Due.code(x));
        Due.is("its error", 7, x.errorPosition());
        Due.is("its output", 12, x.outputSize());
        Due.is("its differences", 1, x.differences());
        Due.is("no plan", 0, unplanned().hasPlan() ? 1 : 0);
        x = full();
        Due.is("the full source", 150, x.size(0));
        Due.is("the full target", 150, x.size(1));
        Due.is("the full code", 400, x.codeSize());
        Due.is("the full output", 300, x.outputSize());
        Due.is("the error of the full one", 4, x.errorPosition());
        Due.is("the plan of the full one", 1, x.plan());
    }

    private static void refused(List<State> states, String what, String want, Call call) {
        for (State state : states) {
            refused(state.name, state.maker, what, want, call);
        }
    }

    private static void refused(
            String name, Supplier<DeltaCodec> maker, String what, String want, Call call) {
        DeltaCodec x = maker.get();
        DeltaCodec untouched = maker.get();
        String where = what + ", " + name;
        Due.isText(where, "throws " + want, answer(x, call));
        Due.isText(where + ", leaves", Due.state(untouched), Due.state(x));
    }

    private static String answer(DeltaCodec x, Call call) {
        try {
            return String.valueOf(call.on(x));
        } catch (RuntimeException e) {
            return "throws " + e.getClass().getSimpleName();
        }
    }

    private static void refusedWith(
            List<State> states, String what, String want, IntFunction<Call> call, int... values) {
        for (int value : values) {
            refused(states, what + " " + value, want, call.apply(value));
        }
    }

    private static void strings() {
        int[] sides = {-1, 2, LOW, HIGH, 256, -256};
        refusedWith(ALL, "feed: side", Due.INDEX, v -> x -> x.feed(v, 1, 1), sides);
        refusedWith(ALL, "fill: side", Due.INDEX, v -> x -> x.fill(v, 1, 1), sides);
        refusedWith(ALL, "cut: side", Due.INDEX, v -> x -> x.cut(v, 0), sides);
        refusedWith(ALL, "set: side", Due.INDEX, v -> x -> x.set(v, 0, 1), sides);
        refusedWith(ALL, "size: side", Due.INDEX, v -> x -> x.size(v), sides);
        refusedWith(ALL, "byteAt: side", Due.INDEX, v -> x -> x.byteAt(v, 0), sides);
        refusedWith(ALL, "check: side", Due.INDEX, v -> x -> x.check(v, 0, 0), sides);
        refusedWith(ALL, "feed: many", Due.ARGUMENT, v -> x -> x.feed(1, 1, v), 0, -1, 9, LOW, HIGH);
        refusedWith(ALL, "feed: many", Due.ARGUMENT, v -> x -> x.feed(0, 1, v), 0, -1, 9, LOW, HIGH);
        refusedWith(ALL, "fill: value", Due.ARGUMENT, v -> x -> x.fill(1, v, 1), -1, 256, LOW, HIGH);
        refusedWith(ALL, "fill: many", Due.ARGUMENT, v -> x -> x.fill(1, 0, v), 0, -1, 151, LOW, HIGH);
        refusedWith(ALL, "cut: negative", Due.ARGUMENT, v -> x -> x.cut(0, v), -1, LOW);
        for (int side = 0; side <= 1; side++) {
            int s = side;
            refusedWith(ALL, "cut: more than its size", Due.ARGUMENT,
                    v -> x -> x.cut(s, v == 1 ? x.size(s) + 1 : v), 1, 151, HIGH);
            refusedWith(ALL, "set: no such place", Due.INDEX,
                    v -> x -> x.set(s, v == 1 ? x.size(s) : v, 1), 1, -1, 150, LOW, HIGH);
            refusedWith(ALL, "byteAt: no such place", Due.INDEX,
                    v -> x -> x.byteAt(s, v == 1 ? x.size(s) : v), 1, -1, 150, LOW, HIGH);
            refusedWith(WITH_STRINGS, "set: value", Due.ARGUMENT,
                    v -> x -> x.set(s, 5, v), -1, 256, LOW, HIGH);
            refusedWith(ALL, "check: from is negative", Due.INDEX,
                    v -> x -> x.check(s, v, x.size(s)), -1, LOW);
            refusedWith(ALL, "check: to is greater than the size", Due.INDEX,
                    v -> x -> x.check(s, 0, v == 1 ? x.size(s) + 1 : v), 1, 151, HIGH);
            refusedWith(ALL, "check: both behind the end", Due.INDEX,
                    v -> x -> x.check(s, x.size(s) + v, x.size(s) + v), 1, 2);
            refusedWith(ALL, "check: both are the same", Due.INDEX,
                    v -> x -> x.check(s, v, v), -1, LOW, HIGH);
            refusedWith(ALL, "check: from is greater than to", Due.INDEX,
                    v -> x -> x.check(s, v == 1 ? x.size(s) + 1 : v, x.size(s)), 1, HIGH);
            refusedWith(ALL, "check: to is negative", Due.INDEX,
                    v -> x -> x.check(s, 0, v), -1, LOW);
            refusedWith(WITH_STRINGS, "check: from is one greater than to", Due.INDEX,
                    v -> x -> x.check(s, v, v - 1), 1, 2, 6);
        }
        refusedWith(ALL, "setLeast", Due.ARGUMENT, v -> x -> x.setLeast(v), 0, -1, 21, LOW, HIGH);
    }

    private static void fullStrings() {
        for (int many = 1; many <= 8; many++) {
            int m = many;
            String what = "feed of " + many + " beyond 150";
            refused("one too many", () -> sized(151 - m, 9), what, Due.STATE, x -> x.feed(0, -1, m));
            refused("one too many", () -> sized(9, 151 - m), what, Due.STATE, x -> x.feed(1, -1, m));
            refused(Arrays.asList(FULL), what, Due.STATE, x -> x.feed(0, 0, m));
            refused(Arrays.asList(FULL), what, Due.STATE, x -> x.feed(1, 0, m));
        }
        for (int many : new int[] {1, 2, 75, 149, 150}) {
            int m = many;
            String what = "fill of " + many + " beyond 150";
            refused("one too many", () -> sized(151 - m, 9), what, Due.STATE, x -> x.fill(0, 0, m));
            refused("one too many", () -> sized(9, 151 - m), what, Due.STATE, x -> x.fill(1, 255, m));
            refused(Arrays.asList(FULL), what, Due.STATE, x -> x.fill(0, 0, m));
            refused(Arrays.asList(FULL), what, Due.STATE, x -> x.fill(1, 0, m));
        }
    }

    private static void matches() {
        int[] sides = {-1, 2, LOW, HIGH};
        refusedWith(WITH_STRINGS, "match: side", Due.INDEX, v -> x -> x.match(0, v), sides);
        refusedWith(WITH_STRINGS, "matchPlace: side", Due.INDEX, v -> x -> x.matchPlace(0, v), sides);
        for (int side = 0; side <= 1; side++) {
            int s = side;
            refusedWith(ALL, "match: no such place", Due.INDEX,
                    v -> x -> x.match(v == 1 ? x.size(1) : v, s), 1, -1, 150, LOW, HIGH);
            refusedWith(ALL, "matchPlace: no such place", Due.INDEX,
                    v -> x -> x.matchPlace(v == 1 ? x.size(1) : v, s), 1, -1, 150, LOW, HIGH);
        }
        // A place of the source alone is none.
        Supplier<DeltaCodec> longSource = () -> sized(20, 4);
        refused("a longer source", longSource, "match", Due.INDEX, x -> x.match(4, 0));
        refused("a longer source", longSource, "matchPlace", Due.INDEX, x -> x.matchPlace(4, 0));
        refusedWith(ALL, "blocks", Due.ARGUMENT, v -> x -> x.blocks(v), 0, -1, 51, LOW, HIGH);
    }

    private static void withoutPlan() {
        refused(NO_PLAN, "cost", Due.STATE, x -> x.cost());
        refused(NO_PLAN, "kind", Due.STATE, x -> x.kind(0));
        refused(NO_PLAN, "length", Due.STATE, x -> x.length(0));
        refused(NO_PLAN, "operand", Due.STATE, x -> x.operand(0));
        refused(NO_PLAN, "start", Due.STATE, x -> x.start(0));
        refusedWith(NO_PLAN, "made", Due.STATE, v -> x -> x.made(v), 0, 1, 2, 3);
        refused(NO_PLAN, "ratio", Due.STATE, x -> x.ratio());
        refused(NO_PLAN, "encode", Due.STATE, x -> x.encode());
    }

    private static void noSuchInstruction() {
        int[] wrong = {1, -1, 150, LOW, HIGH};
        refusedWith(WITH_PLAN, "kind: no such instruction", Due.INDEX,
                v -> x -> x.kind(v == 1 ? x.plan() : v), wrong);
        refusedWith(WITH_PLAN, "length: no such instruction", Due.INDEX,
                v -> x -> x.length(v == 1 ? x.plan() : v), wrong);
        refusedWith(WITH_PLAN, "operand: no such instruction", Due.INDEX,
                v -> x -> x.operand(v == 1 ? x.plan() : v), wrong);
        refusedWith(WITH_PLAN, "start: no such instruction", Due.INDEX,
                v -> x -> x.start(v == 1 ? x.plan() : v), wrong);
        refusedWith(WITH_PLAN, "made: kind", Due.INDEX, v -> x -> x.made(v), -1, 4, LOW, HIGH);
    }

    private static void codes() {
        refusedWith(ALL, "code: no such position", Due.INDEX,
                v -> x -> x.code(v == 1 ? x.codeSize() : v), 1, -1, 400, LOW, HIGH);
        refusedWith(ALL, "setCode: no such position", Due.INDEX,
                v -> x -> x.setCode(v == 1 ? x.codeSize() : v, 7), 1, -1, 400, LOW, HIGH);
        refusedWith(WITH_STRINGS, "setCode: value", Due.ARGUMENT,
                v -> x -> x.setCode(0, v), -1, 256, LOW, HIGH);
        refusedWith(ALL, "cutCode: negative", Due.ARGUMENT, v -> x -> x.cutCode(v), -1, LOW);
        refusedWith(ALL, "cutCode: more than its size", Due.ARGUMENT,
                v -> x -> x.cutCode(v == 1 ? x.codeSize() + 1 : v), 1, 401, HIGH);
        refusedWith(ALL, "appendCode: value", Due.ARGUMENT,
                v -> x -> x.appendCode(v), -1, 256, LOW, HIGH);
        refusedWith(Arrays.asList(FULL), "appendCode: it has 400 bytes", Due.STATE,
                v -> x -> x.appendCode(v), 0, 1, 255);
    }

    private static void output() {
        refusedWith(ALL, "output: no such place", Due.INDEX,
                v -> x -> x.output(v == 1 ? x.outputSize() : v), 1, -1, 300, LOW, HIGH);
    }

    /** Two and three wrong things at once. */
    private static void firstNamed() {
        List<State> full = Arrays.asList(FULL);
        refused(ALL, "feed: side, many", Due.INDEX, x -> x.feed(2, 1, 9));
        refused(ALL, "feed: side, many of 0", Due.INDEX, x -> x.feed(-1, 1, 0));
        refused(full, "feed: side, many, 150", Due.INDEX, x -> x.feed(-1, 1, 8));
        refusedWith(full, "feed: many, 150", Due.ARGUMENT, v -> x -> x.feed(0, 1, v), 0, 9, LOW, HIGH);
        refused(ALL, "fill: side, value", Due.INDEX, x -> x.fill(2, 256, 1));
        refused(ALL, "fill: side, many", Due.INDEX, x -> x.fill(-1, 0, 151));
        refused(ALL, "fill: side, value, many", Due.INDEX, x -> x.fill(-1, -1, 0));
        refused(full, "fill: value, 150", Due.ARGUMENT, x -> x.fill(0, 256, 1));
        refused(full, "fill: negative value, 150", Due.ARGUMENT, x -> x.fill(1, -1, 150));
        refused(full, "fill: many, 150", Due.ARGUMENT, x -> x.fill(1, 0, 151));
        refused(full, "fill: side, value, many, 150", Due.INDEX, x -> x.fill(2, 256, 151));
        refused(ALL, "cut: side, negative", Due.INDEX, x -> x.cut(2, -1));
        refused(ALL, "cut: side, too many", Due.INDEX, x -> x.cut(-1, 151));
        refused(ALL, "set: side, value", Due.INDEX, x -> x.set(2, 0, 256));
        refused(ALL, "set: place, value", Due.INDEX, x -> x.set(0, x.size(0), 256));
        refused(ALL, "set: negative place and value", Due.INDEX, x -> x.set(1, -1, -1));
        refused(ALL, "set: side, place, value", Due.INDEX, x -> x.set(-1, 150, -1));
        refused(NO_PLAN, "kind: no plan", Due.STATE, x -> x.kind(-1));
        refused(NO_PLAN, "length: no plan", Due.STATE, x -> x.length(HIGH));
        refused(NO_PLAN, "operand: no plan", Due.STATE, x -> x.operand(LOW));
        refused(NO_PLAN, "start: no plan", Due.STATE, x -> x.start(150));
        refused(NO_PLAN, "made: no plan, kind", Due.STATE, x -> x.made(4));
        refused(NO_PLAN, "made: no plan, negative kind", Due.STATE, x -> x.made(-1));
        refused(ALL, "setCode: position, value", Due.INDEX, x -> x.setCode(x.codeSize(), 256));
        refused(ALL, "setCode: both negative", Due.INDEX, x -> x.setCode(-1, -1));
        refused(full, "appendCode: value, 400", Due.ARGUMENT, x -> x.appendCode(256));
        refused(full, "appendCode: negative value, 400", Due.ARGUMENT, x -> x.appendCode(-1));
    }

    /** What was refused does not stand in the way of what comes behind it. */
    private static void laterCalls() {
        DeltaCodec x = sized(145, 148);
        Due.isText("feed of 6", "throws " + Due.STATE, answer(x, y -> y.feed(0, -1, 6)));
        Due.is("feed of 5", 150, x.feed(0, 0x0102030405L, 5));
        Due.is("the byte ahead of them", 5, x.byteAt(0, 144));
        Due.is("the first of them", 1, x.byteAt(0, 145));
        Due.isText("fill of 3", "throws " + Due.STATE, answer(x, y -> y.fill(1, 255, 3)));
        Due.is("fill of 2", 150, x.fill(1, 7, 2));
        Due.is("the byte ahead of the two", 6, x.byteAt(1, 147));
        for (State state : NOT_FULL) {
            DeltaCodec y = state.maker.get();
            int size = y.codeSize();
            Due.isText("append of 256", "throws " + Due.ARGUMENT, answer(y, z -> z.appendCode(256)));
            Due.is("append of 255", size + 1, y.appendCode(255));
            Due.is("the byte of it", 255, y.code(size));
        }
        DeltaCodec z = full();
        Due.isText("append to 400", "throws " + Due.STATE, answer(z, y -> y.appendCode(3)));
        Due.is("cutCode of 1", 399, z.cutCode(1));
        Due.is("append to 399", 400, z.appendCode(4));
        Due.is("the last byte", 4, z.code(399));
    }
}
