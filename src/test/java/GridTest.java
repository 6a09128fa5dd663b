import java.util.function.Supplier;

/**
 * All methods with all arguments about the document's limits, in a few states, and all short codes
 * and plans of a few bytes: each compared with the model.
 */
public final class GridTest {
    private static final int[] NEAR = {Integer.MIN_VALUE, -256, -2, -1, 0, 1, 2, 3, 4, 5, 7, 8, 9, 11, 12,
        19, 20, 21, 49, 50, 51, 149, 150, 151, 255, 256, 299, 300, 301, 399, 400, 401,
        Integer.MAX_VALUE};
    // Heads of each kind with an n of 0, 1, 2 and 63, and both ends of a number's bytes.
    private static final int[] CODE_BYTES = {0, 1, 2, 63, 64, 65, 66, 127, 128, 129, 130, 191, 192, 193,
        255};

    /** An object of the class and one of the model, which have had the same calls. */
    private static final class Pair {
        private final DeltaCodec x = new DeltaCodec();
        private final Model y = new Model();

        void fill(int side, int value, int many) {
            x.fill(side, value, many);
            y.fill(side, value, many);
        }

        void append(int side, String text) {
            Due.append(x, side, text);
            Due.append(y, side, text);
        }

        void appendCode(int value) {
            x.appendCode(value);
            y.appendCode(value);
        }

        void decode() {
            x.decode();
            y.decode();
        }

        void same(String what, String want, String got) {
            Due.isText(what, want, got);
            Due.is(what + ": digest", y.digest(), x.digest());
            Due.is(what + ": hasPlan", y.hasPlan() ? 1 : 0, x.hasPlan() ? 1 : 0);
            Due.is(what + ": errorPosition", y.errorPosition(), x.errorPosition());
            Due.is(what + ": differences", y.differences(), x.differences());
        }
    }

    interface Call {
        double on(DeltaCodec x, int a, int b, int c);
    }

    interface ModelCall {
        double on(Model y, int a, int b, int c);
    }

    public static void main(String[] args) {
        grid("new", Pair::new);
        grid("used", GridTest::used);
        grid("full", GridTest::full);
        allShortCodes();
        allShortPlans();
        Due.end();
    }

    private static Pair used() {
        Pair pair = new Pair();
        pair.append(0, "abcdefabcdef");
        pair.append(1, "xyabcdefzzzzyabcdefa");
        pair.x.setLeast(2);
        pair.y.setLeast(2);
        pair.x.plan();
        pair.y.plan();
        pair.x.encode();
        pair.y.encode();
        pair.x.setCode(1, 200);
        pair.y.setCode(1, 200);
        pair.decode();
        return pair;
    }

    /** Without a plan, because the model is slow. */
    private static Pair full() {
        Pair pair = new Pair();
        pair.fill(0, 1, 75);
        pair.fill(0, 2, 75);
        pair.fill(1, 2, 100);
        pair.fill(1, 1, 50);
        int[] first = {255, 237, 1, 9};
        for (int i = 0; i < 400; i++) {
            pair.appendCode(i < first.length ? first[i] : 0);
        }
        pair.decode();
        return pair;
    }

    private static String answer(Supplier<Double> call) {
        try {
            return String.valueOf(call.get());
        } catch (RuntimeException e) {
            return "throws " + e.getClass().getSimpleName();
        }
    }

    private static void one(String name, Supplier<Pair> state, Call call, ModelCall model) {
        some(name, state, 1, call, model);
    }

    private static void two(String name, Supplier<Pair> state, Call call, ModelCall model) {
        some(name, state, NEAR.length, call, model);
    }

    /** A state is made again only where a call was not refused, as a refused one changes nothing. */
    private static void some(String name, Supplier<Pair> state, int seconds, Call call, ModelCall model) {
        int[] thirds = {-1, 0, 1, 9, 255, 256};
        Pair pair = state.get();
        int calls = 0;
        for (int a : NEAR) {
            for (int i = 0; i < seconds; i++) {
                for (int c : seconds == 1 ? new int[1] : thirds) {
                    int b = NEAR[i];
                    Pair now = pair;
                    String want = answer(() -> model.on(now.y, a, b, c));
                    String got = answer(() -> call.on(now.x, a, b, c));
                    now.same(name + " " + a + " " + b + " " + c, want, got);
                    calls++;
                    if (!want.startsWith("throws") || calls % 15 == 0) {
                        pair = state.get();
                    }
                }
            }
        }
    }

    private static void grid(String name, Supplier<Pair> state) {
        two(name + ": feed", state, (x, a, b, c) -> x.feed(a, 0x80FF00017F00FE02L + c, b),
                (y, a, b, c) -> y.feed(a, 0x80FF00017F00FE02L + c, b));
        two(name + ": fill", state, (x, a, b, c) -> x.fill(a, c, b), (y, a, b, c) -> y.fill(a, c, b));
        two(name + ": set", state, (x, a, b, c) -> x.set(a, b, c), (y, a, b, c) -> y.set(a, b, c));
        two(name + ": check", state, (x, a, b, c) -> x.check(c, a, b), (y, a, b, c) -> y.check(c, a, b));
        two(name + ": cut", state, (x, a, b, c) -> x.cut(a, b), (y, a, b, c) -> y.cut(a, b));
        two(name + ": byteAt", state, (x, a, b, c) -> x.byteAt(a, b), (y, a, b, c) -> y.byteAt(a, b));
        two(name + ": setCode", state, (x, a, b, c) -> x.setCode(b, a), (y, a, b, c) -> y.setCode(b, a));
        one(name + ": match 0", state, (x, a, b, c) -> x.match(a, 0), (y, a, b, c) -> y.match(a, 0));
        one(name + ": match 1", state, (x, a, b, c) -> x.match(a, 1), (y, a, b, c) -> y.match(a, 1));
        one(name + ": match side", state, (x, a, b, c) -> x.match(0, a), (y, a, b, c) -> y.match(0, a));
        one(name + ": matchPlace 0", state, (x, a, b, c) -> x.matchPlace(a, 0),
                (y, a, b, c) -> y.matchPlace(a, 0));
        one(name + ": matchPlace 1", state, (x, a, b, c) -> x.matchPlace(a, 1),
                (y, a, b, c) -> y.matchPlace(a, 1));
        one(name + ": matchPlace side", state, (x, a, b, c) -> x.matchPlace(0, a),
                (y, a, b, c) -> y.matchPlace(0, a));
        one(name + ": size", state, (x, a, b, c) -> x.size(a), (y, a, b, c) -> y.size(a));
        one(name + ": blocks", state, (x, a, b, c) -> x.blocks(a), (y, a, b, c) -> y.blocks(a));
        one(name + ": setLeast", state, (x, a, b, c) -> x.setLeast(a), (y, a, b, c) -> y.setLeast(a));
        one(name + ": kind", state, (x, a, b, c) -> x.kind(a), (y, a, b, c) -> y.kind(a));
        one(name + ": length", state, (x, a, b, c) -> x.length(a), (y, a, b, c) -> y.length(a));
        one(name + ": operand", state, (x, a, b, c) -> x.operand(a), (y, a, b, c) -> y.operand(a));
        one(name + ": start", state, (x, a, b, c) -> x.start(a), (y, a, b, c) -> y.start(a));
        one(name + ": made", state, (x, a, b, c) -> x.made(a), (y, a, b, c) -> y.made(a));
        one(name + ": code", state, (x, a, b, c) -> x.code(a), (y, a, b, c) -> y.code(a));
        one(name + ": cutCode", state, (x, a, b, c) -> x.cutCode(a), (y, a, b, c) -> y.cutCode(a));
        one(name + ": appendCode", state, (x, a, b, c) -> x.appendCode(a), (y, a, b, c) -> y.appendCode(a));
        one(name + ": output", state, (x, a, b, c) -> x.output(a), (y, a, b, c) -> y.output(a));
    }

    /** All codes of up to four bytes of instructions, with check bytes of 0 and the right ones. */
    private static void allShortCodes() {
        for (int size = 0; size <= 4; size++) {
            int[] bytes = new int[size];
            int many = (int) Math.round(Math.pow(CODE_BYTES.length, size));
            for (int which = 0; which < many; which++) {
                int rest = which;
                for (int i = 0; i < size; i++) {
                    bytes[i] = CODE_BYTES[rest % CODE_BYTES.length];
                    rest /= CODE_BYTES.length;
                }
                decodeBoth(bytes);
            }
        }
    }

    private static void decodeBoth(int[] bytes) {
        Pair pair = new Pair();
        pair.append(0, "ab");
        pair.append(1, "\1\2\77a");
        for (int value : bytes) {
            pair.appendCode(value);
        }
        pair.appendCode(0);
        pair.appendCode(0);
        pair.same("decode", String.valueOf(pair.y.decode()), String.valueOf(pair.x.decode()));
        sameOutput(pair);
        if (pair.y.errorPosition() == bytes.length) {
            int check = pair.y.checkOfMade();
            for (int k = 0; k < 2; k++) {
                int value = k == 0 ? check % 256 : check / 256;
                pair.x.setCode(bytes.length + k, value);
                pair.y.setCode(bytes.length + k, value);
            }
            pair.same("decode", String.valueOf(pair.y.decode()), String.valueOf(pair.x.decode()));
        }
    }

    private static void sameOutput(Pair pair) {
        for (int place = 0; place < pair.y.outputSize(); place++) {
            Due.is("output " + place, pair.y.output(place), pair.x.output(place));
        }
    }

    /** All sources of up to four and all targets of up to five of two bytes, against all plans. */
    private static void allShortPlans() {
        for (int least = 1; least <= 4; least++) {
            for (int source = 1; source < 32; source++) {
                for (int target = 1; target < 64; target++) {
                    planBoth(least, Integer.toBinaryString(source).substring(1),
                            Integer.toBinaryString(target).substring(1));
                }
            }
        }
    }

    private static void planBoth(int least, String source, String target) {
        Pair pair = new Pair();
        pair.append(0, source);
        pair.append(1, target);
        pair.x.setLeast(least);
        pair.y.setLeast(least);
        pair.x.plan();
        pair.y.planByTryingAll();
        Due.is("plan of " + source + " to " + target + " with " + least, pair.y.digest(), pair.x.digest());
        Due.is("cost of " + source + " to " + target + " with " + least, pair.y.cost(), pair.x.cost());
    }
}
