import java.util.Random;
import java.util.function.LongSupplier;

/** All promises: long runs of calls, right and wrong ones, on the class and on the model. */
public final class ModelTest {
    private static final int RUNS = 400;
    private static final int CALLS = 512;

    private final Random random;
    private final DeltaCodec x = new DeltaCodec();
    private final Model y = new Model();
    // Few letters bring many equal plans; short strings keep the model quick.
    private final int letters;
    private final int firstLetter;
    private final int sizes;

    private ModelTest(int seed) {
        random = new Random(seed);
        letters = 1 + random.nextInt(4);
        firstLetter = seed % 3 == 0 ? 0 : 97;
        sizes = seed % 10 == 0 ? 150 : 5 + random.nextInt(40);
    }

    public static void main(String[] args) {
        for (int seed = 0; seed < RUNS; seed++) {
            new ModelTest(seed).run(seed);
        }
        for (int seed = 0; seed < 400; seed++) {
            new ModelTest(seed).tryAllPlans(seed);
        }
        for (int seed = 0; seed < 60; seed++) {
            new ModelTest(seed).planLongStrings(seed);
        }
        for (int seed = 0; seed < 5000; seed++) {
            new ModelTest(seed).decodeDamaged(seed);
        }
        Due.end();
    }

    private void same(String what, LongSupplier want, LongSupplier got) {
        Due.isText(what, Due.answer(want), Due.answer(got));
    }

    private void run(int seed) {
        for (int call = 0; call < CALLS - 2; call++) {
            String what = "run " + seed + ", call " + call + ": ";
            int which = random.nextInt(40);
            if (which < 12) {
                changeStrings(what, which);
            } else if (which < 20) {
                changeCode(what, which - 12);
            } else if (which < 28) {
                askStrings(what, which - 20);
            } else {
                askPlan(what, which - 28);
            }
            if (call % 16 == 0) {
                same(what + "digest", y::digest, x::digest);
            }
        }
        same("run " + seed + ", end: digest", y::digest, x::digest);
    }

    /** Mostly a number of the range, sometimes one at or beyond its ends. */
    private int near(int low, int high) {
        switch (random.nextInt(16)) {
            case 0:
                return low - 1;
            case 1:
                return high + 1;
            case 2:
                return random.nextBoolean() ? Integer.MIN_VALUE : Integer.MAX_VALUE;
            case 3:
                return random.nextBoolean() ? low : high;
            default:
                return high < low ? low : low + random.nextInt(high - low + 1);
        }
    }

    private int letter() {
        return random.nextInt(30) == 0 ? near(0, 255) : firstLetter + random.nextInt(letters);
    }

    private void changeStrings(String what, int which) {
        int side = random.nextInt(30) == 0 ? near(0, 1) : random.nextInt(2);
        boolean isFull = y.size(side == 0 ? 0 : 1) >= sizes;
        int many = near(1, which < 6 ? 8 : 12);
        int value = letter();
        switch (which) {
            case 0: case 1: case 2: case 3: case 4: case 5:
                long bytes = bytes();
                if (isFull) {
                    int less = near(0, sizes / 2);
                    same(what + "cut", () -> y.cut(side, less), () -> x.cut(side, less));
                } else {
                    same(what + "feed", () -> y.feed(side, bytes, many), () -> x.feed(side, bytes, many));
                }
                break;
            case 6: case 7:
                if (!isFull || many > 150 || many < 1) {
                    same(what + "fill", () -> y.fill(side, value, many), () -> x.fill(side, value, many));
                }
                break;
            case 8:
                same(what + "cut", () -> y.cut(side, many), () -> x.cut(side, many));
                break;
            case 9:
                int place = near(0, y.size(side == 0 ? 0 : 1) - 1);
                same(what + "set", () -> y.set(side, place, value), () -> x.set(side, place, value));
                break;
            case 10:
                int least = near(1, random.nextBoolean() ? 4 : 20);
                same(what + "setLeast", () -> y.setLeast(least), () -> x.setLeast(least));
                break;
            default:
                if (random.nextInt(3) != 0) {
                    same(what + "turn", y::turn, x::turn);
                } else {
                    same(what + "advance", y::advance, x::advance);
                }
        }
    }

    private long bytes() {
        if (random.nextInt(8) == 0) {
            return random.nextLong();
        }
        long bytes = 0;
        for (int i = 0; i < 8; i++) {
            bytes = bytes << 8 | (firstLetter + random.nextInt(letters));
        }
        return bytes;
    }

    private void changeCode(String what, int which) {
        int position = near(0, y.codeSize() - 1);
        int value = near(0, 255);
        switch (which) {
            case 0:
                same(what + "setCode", () -> y.setCode(position, value), () -> x.setCode(position, value));
                break;
            case 1:
                int many = near(0, 3);
                same(what + "cutCode", () -> y.cutCode(many), () -> x.cutCode(many));
                break;
            case 2: case 3:
                same(what + "appendCode", () -> y.appendCode(value), () -> x.appendCode(value));
                break;
            case 4:
                same(what + "encode", y::encode, x::encode);
                break;
            default:
                same(what + "decode", y::decode, x::decode);
                same(what + "errorPosition", y::errorPosition, x::errorPosition);
                same(what + "outputSize", y::outputSize, x::outputSize);
                same(what + "differences", y::differences, x::differences);
        }
    }

    private void askStrings(String what, int which) {
        int side = random.nextInt(10) == 0 ? near(0, 1) : random.nextInt(2);
        int place = near(0, y.size(side == 0 ? 0 : 1) - 1);
        int from = near(0, y.size(1));
        int to = near(from < 0 || from > 150 ? 0 : from, y.size(1));
        switch (which) {
            case 0:
                same(what + "size", () -> y.size(side), () -> x.size(side));
                break;
            case 1:
                same(what + "byteAt", () -> y.byteAt(side, place), () -> x.byteAt(side, place));
                break;
            case 2:
                same(what + "check", () -> y.check(side, from, to), () -> x.check(side, from, to));
                break;
            case 3:
                int size = near(1, random.nextBoolean() ? 4 : 50);
                same(what + "blocks", () -> y.blocks(size), () -> x.blocks(size));
                break;
            case 4:
                int at = near(0, y.codeSize() - 1);
                same(what + "code", () -> y.code(at), () -> x.code(at));
                break;
            case 5:
                int out = near(0, y.outputSize() - 1);
                same(what + "output", () -> y.output(out), () -> x.output(out));
                break;
            default:
                int start = near(0, y.size(1) - 1);
                same(what + "match", () -> y.match(start, side), () -> x.match(start, side));
                same(what + "matchPlace", () -> y.matchPlace(start, side), () -> x.matchPlace(start, side));
        }
    }

    private void askPlan(String what, int which) {
        int i = near(0, y.hasPlan() ? y.plan() - 1 : 2);
        switch (which) {
            case 0: case 1: case 2: case 3:
                if (sizes < 100 || random.nextInt(8) == 0) {
                    same(what + "plan", y::plan, x::plan);
                }
                break;
            case 4:
                same(what + "hasPlan", () -> y.hasPlan() ? 1 : 0, () -> x.hasPlan() ? 1 : 0);
                break;
            case 5:
                same(what + "cost", y::cost, x::cost);
                break;
            case 6:
                same(what + "kind", () -> y.kind(i), () -> x.kind(i));
                break;
            case 7:
                same(what + "length", () -> y.length(i), () -> x.length(i));
                break;
            case 8:
                same(what + "operand", () -> y.operand(i), () -> x.operand(i));
                break;
            case 9:
                same(what + "start", () -> y.start(i), () -> x.start(i));
                break;
            case 10:
                int kind = near(0, 3);
                same(what + "made", () -> y.made(kind), () -> x.made(kind));
                break;
            default:
                same(what + "ratio", () -> Double.doubleToLongBits(y.ratio()),
                        () -> Double.doubleToLongBits(x.ratio()));
        }
    }

    private void fillBoth(int side, int value, int many) {
        x.fill(side, value, many);
        y.fill(side, value, many);
    }

    private void tryAllPlans(int seed) {
        int least = 1 + random.nextInt(3);
        x.setLeast(least);
        y.setLeast(least);
        for (int i = random.nextInt(9); i > 0; i--) {
            fillBoth(0, firstLetter + random.nextInt(letters), 1);
        }
        for (int i = random.nextInt(8); i > 0; i--) {
            fillBoth(1, firstLetter + random.nextInt(letters), 1);
        }
        x.plan();
        y.planByTryingAll();
        same("all plans " + seed + ": digest", y::digest, x::digest);
    }

    /** Pieces of a long source, long runs and periods, for lengths at 63 and places at 128. */
    private void planLongStrings(int seed) {
        int least = 1 + random.nextInt(6);
        x.setLeast(least);
        y.setLeast(least);
        int many = 120 + random.nextInt(31);
        for (int i = 0; i < many; i++) {
            fillBoth(0, firstLetter + random.nextInt(letters * (1 + seed % 9)), 1);
        }
        while (y.size(1) < 140) {
            int room = 150 - y.size(1);
            int n = Math.min(room, 1 + random.nextInt(seed % 2 == 0 ? 6 : 80));
            int from = random.nextInt(many);
            int kind = random.nextInt(4);
            int value = random.nextInt(256);
            for (int k = 0; k < n; k++) {
                int size = y.size(1);
                fillBoth(1, kind == 0 ? random.nextInt(256) : kind == 1 ? y.byteAt(0, (from + k) % many)
                        : kind == 2 && size > 0 ? y.byteAt(1, Math.max(0, size - 1 - from % 9)) : value, 1);
            }
        }
        same("long " + seed + ": plan", y::plan, x::plan);
        same("long " + seed + ": cost", y::cost, x::cost);
        same("long " + seed + ": digest", y::digest, x::digest);
        same("long " + seed + ": encode", y::encode, x::encode);
        y.decode();
        same("long " + seed + ": decode", () -> 0, x::decode);
        same("long " + seed + ": differences", () -> 0, x::differences);
        same("long " + seed + ": digest of all", y::digest, x::digest);
    }

    private void appendBoth(int value) {
        x.appendCode(value);
        y.appendCode(value);
    }

    private void appendNumber(int number) {
        boolean isLong = number >= 128 || random.nextInt(10) == 0;
        appendBoth(isLong ? 128 + number % 128 : number);
        if (isLong) {
            appendBoth(random.nextInt(20) == 0 ? 128 + random.nextInt(128) : number / 128);
        }
    }

    private void appendInstruction() {
        int kind = random.nextInt(4);
        int n = random.nextInt(12) == 0 ? random.nextInt(kind == 0 ? 64 : 330) : 1 + random.nextInt(9);
        appendBoth(64 * kind + Math.min(n, 63));
        if (n >= 63) {
            appendNumber(n - 63);
        }
        if (kind == 0) {
            for (int i = random.nextInt(30) == 0 ? 1 : 0; i < n; i++) {
                appendBoth(random.nextInt(256));
            }
        } else if (kind == 3) {
            appendBoth(random.nextInt(256));
        } else {
            appendNumber(random.nextInt(10) == 0 ? random.nextInt(200) : random.nextInt(5));
        }
    }

    /** Codes with some damage, and with right check bytes where that is possible. */
    private void decodeDamaged(int seed) {
        for (int i = random.nextInt(151); i > 0; i--) {
            fillBoth(0, random.nextInt(256), 1);
        }
        int steps = random.nextInt(12);
        for (int i = 0; i < steps && y.codeSize() < 300; i++) {
            appendInstruction();
        }
        appendBoth(random.nextInt(256));
        appendBoth(random.nextInt(256));
        sameDecoding("damaged " + seed);
        if (x.errorPosition() == x.codeSize() - 2) {
            makeCheckRight();
            sameDecoding("with its check, damaged " + seed);
        }
    }

    private void makeCheckRight() {
        int check = y.checkOfMade();
        for (int k = 0; k < 2; k++) {
            int value = k == 0 ? check % 256 : check / 256;
            int position = y.codeSize() - 2 + k;
            x.setCode(position, value);
            y.setCode(position, value);
        }
    }

    private void sameDecoding(String what) {
        same(what + ": decode", y::decode, x::decode);
        same(what + ": errorPosition", y::errorPosition, x::errorPosition);
        same(what + ": outputSize", y::outputSize, x::outputSize);
        same(what + ": differences", y::differences, x::differences);
        for (int i = 0; i < y.outputSize(); i++) {
            int place = i;
            same(what + ": output " + i, () -> y.output(place), () -> x.output(place));
        }
    }
}
