/** Promises 1 to 10: a new object, and its strings. */
public final class StringsTest {
    private static final int LOW = Integer.MIN_VALUE;
    private static final int HIGH = Integer.MAX_VALUE;

    public static void main(String[] args) {
        newObject();
        feed();
        fill();
        cut();
        set();
        sizeAndByteAt();
        turn();
        advance();
        check();
        Due.end();
    }

    private static void newObject() {
        DeltaCodec x = new DeltaCodec();
        Due.is("size of a new source", 0, x.size(0));
        Due.is("size of a new target", 0, x.size(1));
        Due.is("hasPlan of a new object", 0, x.hasPlan() ? 1 : 0);
        Due.is("codeSize of a new object", 0, x.codeSize());
        Due.is("errorPosition of a new object", -1, x.errorPosition());
        Due.is("outputSize of a new object", 0, x.outputSize());
        Due.is("differences of a new object", 0, x.differences());
        Due.is("the first least size", 3, x.setLeast(3));
        DeltaCodec y = new DeltaCodec();
        x.fill(0, 7, 5);
        Due.is("objects do not share strings", 0, y.size(0));
    }

    private static void feed() {
        DeltaCodec x = new DeltaCodec();
        Due.is("feed of 3", 3, x.feed(0, 0x616263L, 3));
        Due.isText("the lowest byte is the last", "abc", Due.string(x, 0));
        Due.is("feed of 2 of 8", 5, x.feed(0, 0x1122334455667788L, 2));
        Due.is("higher bytes are left out", 0x77, x.byteAt(0, 3));
        Due.is("the last of 2", 0x88, x.byteAt(0, 4));
        Due.is("feed of 8", 8, x.feed(1, -2L, 8));
        Due.is("the first of 8", 255, x.byteAt(1, 0));
        Due.is("the last of 8", 254, x.byteAt(1, 7));
        Due.is("feed of 1", 9, x.feed(1, Long.MIN_VALUE, 1));
        Due.is("a byte of 0", 0, x.byteAt(1, 8));
        Due.refusesAll("feed side", Due.INDEX, x, v -> x.feed(v, 1, 1), -1, 2, LOW, HIGH);
        Due.refusesAll("feed many", Due.ARGUMENT, x, v -> x.feed(0, 1, v), 0, -1, 9, LOW, HIGH);
        Due.refuses("feed side before many", Due.INDEX, x, () -> x.feed(2, 1, 9));
        x.fill(0, 1, 140);
        Due.is("feed up to 150", 150, x.feed(0, 1, 5));
        Due.refuses("feed beyond 150", Due.STATE, x, () -> x.feed(0, 1, 1));
        Due.refuses("feed many before 150", Due.ARGUMENT, x, () -> x.feed(0, 1, 9));
        x.cut(0, 7);
        Due.refuses("feed of 8 into 143", Due.STATE, x, () -> x.feed(0, 1, 8));
        dropsPlan("feed", y -> y.feed(0, 1, 1));
    }

    private static void fill() {
        DeltaCodec x = new DeltaCodec();
        Due.is("fill", 3, x.fill(1, 255, 3));
        Due.is("fill again", 5, x.fill(1, 0, 2));
        Due.is("filled first", 255, x.byteAt(1, 2));
        Due.is("filled last", 0, x.byteAt(1, 3));
        Due.is("fill leaves the other", 0, x.size(0));
        Due.refusesAll("fill side", Due.INDEX, x, v -> x.fill(v, 1, 1), -1, 2, LOW, HIGH);
        Due.refusesAll("fill value", Due.ARGUMENT, x, v -> x.fill(0, v, 1), -1, 256, LOW, HIGH);
        Due.refusesAll("fill many", Due.ARGUMENT, x, v -> x.fill(0, 1, v), 0, -1, 151, LOW, HIGH);
        Due.refuses("fill side before value", Due.INDEX, x, () -> x.fill(-1, 256, 0));
        Due.refuses("fill value before 150", Due.ARGUMENT, x, () -> x.fill(1, 256, 150));
        Due.refuses("fill many before 150", Due.ARGUMENT, x, () -> x.fill(1, 1, 151));
        Due.refuses("fill beyond 150", Due.STATE, x, () -> x.fill(1, 1, 146));
        Due.is("fill up to 150", 150, x.fill(1, 9, 145));
        Due.is("fill the whole source", 150, x.fill(0, 8, 150));
        Due.refuses("fill a full one", Due.STATE, x, () -> x.fill(1, 1, 1));
        dropsPlan("fill", y -> y.fill(1, 1, 1));
    }

    private static void cut() {
        DeltaCodec x = Due.codec("abcdef", "xyz");
        Due.is("cut", 4, x.cut(0, 2));
        Due.isText("what cut leaves", "abcd", Due.string(x, 0));
        Due.is("cut of nothing", 3, x.cut(1, 0));
        Due.refusesAll("cut side", Due.INDEX, x, v -> x.cut(v, 0), -1, 2, LOW, HIGH);
        Due.refusesAll("cut many", Due.ARGUMENT, x, v -> x.cut(1, v), -1, 4, LOW, HIGH);
        Due.refuses("cut side before many", Due.INDEX, x, () -> x.cut(2, -1));
        Due.is("cut of all", 0, x.cut(0, 4));
        Due.is("cut of nothing from nothing", 0, x.cut(0, 0));
        Due.is("fill behind a cut", 1, x.fill(0, 'q', 1));
        Due.isText("no cut byte comes back", "q", Due.string(x, 0));
        dropsPlan("cut of 0", y -> y.cut(0, 0));
        dropsPlan("cut", y -> y.cut(1, 1));
    }

    private static void set() {
        DeltaCodec x = Due.codec("abc", "xy");
        Due.is("set", 'b', x.set(0, 1, 200));
        Due.is("the new byte", 200, x.byteAt(0, 1));
        Due.is("set again", 200, x.set(0, 1, 0));
        Due.is("set of 255", 'y', x.set(1, 1, 255));
        Due.refusesAll("set side", Due.INDEX, x, v -> x.set(v, 0, 1), -1, 2, LOW, HIGH);
        Due.refusesAll("set place", Due.INDEX, x, v -> x.set(1, v, 1), -1, 2, LOW, HIGH);
        Due.refusesAll("set value", Due.ARGUMENT, x, v -> x.set(0, 0, v), -1, 256, LOW, HIGH);
        Due.refuses("set place before value", Due.INDEX, x, () -> x.set(0, 3, 256));
        dropsPlan("set of the same", y -> y.set(0, 0, y.byteAt(0, 0)));
    }

    private static void sizeAndByteAt() {
        DeltaCodec x = Due.codec("abc", "xy");
        Due.is("size of the source", 3, x.size(0));
        Due.is("size of the target", 2, x.size(1));
        Due.is("byteAt", 'c', x.byteAt(0, 2));
        Due.is("byteAt of the target", 'x', x.byteAt(1, 0));
        Due.refusesAll("size side", Due.INDEX, x, v -> x.size(v), -1, 2, LOW, HIGH);
        Due.refusesAll("byteAt side", Due.INDEX, x, v -> x.byteAt(v, 0), -1, 2, LOW, HIGH);
        Due.refusesAll("byteAt place", Due.INDEX, x, v -> x.byteAt(1, v), -1, 2, 150, LOW, HIGH);
        keepsPlan("size and byteAt", y -> y.size(0) + y.byteAt(1, 0));
    }

    private static void turn() {
        DeltaCodec x = Due.codec("abc", "xy");
        Due.is("turn", 3, x.turn());
        Due.isText("source after turn", "xy", Due.string(x, 0));
        Due.isText("target after turn", "abc", Due.string(x, 1));
        x.fill(0, 'z', 1);
        Due.is("turn back", 3, x.turn());
        Due.isText("target after two turns", "xyz", Due.string(x, 1));
        Due.isText("source after two turns", "abc", Due.string(x, 0));
        dropsPlan("turn", DeltaCodec::turn);
        DeltaCodec z = new DeltaCodec();
        z.plan();
        z.turn();
        Due.is("turn of nothing drops the plan", 0, z.hasPlan() ? 1 : 0);
    }

    private static void advance() {
        DeltaCodec x = Due.codec("abc", "xy");
        Due.is("advance", 2, x.advance());
        Due.isText("source after advance", "xy", Due.string(x, 0));
        Due.isText("target after advance", "", Due.string(x, 1));
        Due.append(x, 1, "q");
        Due.isText("the source stays apart", "xy", Due.string(x, 0));
        Due.is("advance again", 1, x.advance());
        Due.is("advance of nothing", 0, x.advance());
        Due.is("nothing is left", 0, x.size(0) + x.size(1));
        dropsPlan("advance", DeltaCodec::advance);
    }

    private static void check() {
        DeltaCodec x = new DeltaCodec();
        Due.is("check of nothing", 0, x.check(0, 0, 0));
        x.feed(0, 0x0A0B0CL, 3);
        Due.is("check of 10, 11, 12", 256 * (10 + 21 + 33) + 33, x.check(0, 0, 3));
        Due.is("check of 11", 256 * 11 + 11, x.check(0, 1, 2));
        Due.is("check of 11, 12", 256 * (11 + 23) + 23, x.check(0, 1, 3));
        Due.is("check of nothing at the end", 0, x.check(0, 3, 3));
        x.fill(1, 255, 150);
        int sum = 150 * 255 % 251;
        int sums = 255 * (150 * 151 / 2) % 251;
        Due.is("check of 150 times 255", 256 * sums + sum, x.check(1, 0, 150));
        x.set(1, 0, 251);
        Due.is("check of 251", 0, x.check(1, 0, 1));
        x.set(1, 0, 250);
        Due.is("check of 250", 256 * 250 + 250, x.check(1, 0, 1));
        Due.refusesAll("check side", Due.INDEX, x, v -> x.check(v, 0, 0), -1, 2, LOW, HIGH);
        Due.refusesAll("check from", Due.INDEX, x, v -> x.check(0, v, 2), -1, 3, LOW, HIGH);
        Due.refusesAll("check to", Due.INDEX, x, v -> x.check(0, 1, v), 0, 4, -1, LOW, HIGH);
        Due.refuses("check behind the end", Due.INDEX, x, () -> x.check(0, 4, 4));
        keepsPlan("check", y -> y.check(0, 0, 1));
    }

    interface Call {
        int on(DeltaCodec x);
    }

    private static void dropsPlan(String what, Call call) {
        Due.is(what + " drops the plan", 0, planAfter(call));
    }

    private static void keepsPlan(String what, Call call) {
        Due.is(what + " keeps the plan", 1, planAfter(call));
    }

    private static int planAfter(Call call) {
        DeltaCodec x = Due.codec("abc", "xabcy");
        x.plan();
        call.on(x);
        return x.hasPlan() ? 1 : 0;
    }
}
