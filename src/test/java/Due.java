import java.util.function.IntConsumer;
import java.util.function.LongSupplier;

/** What the tests share: compares answers with what is due, and counts the wrong ones. */
final class Due {
    static final String INDEX = "IndexOutOfBoundsException";
    static final String ARGUMENT = "IllegalArgumentException";
    static final String STATE = "IllegalStateException";

    private static int wrong = 0;
    private static int seen = 0;

    private Due() {}

    static void is(String what, long want, long got) {
        seen++;
        if (got != want) {
            report(what, String.valueOf(got), String.valueOf(want));
        }
    }

    static void isDouble(String what, double want, double got) {
        seen++;
        if (got != want) {
            report(what, String.valueOf(got), String.valueOf(want));
        }
    }

    static void isText(String what, String want, String got) {
        seen++;
        if (!want.equals(got)) {
            report(what, got, want);
        }
    }

    /** The call must throw just this exception, and leave the digest as it was. */
    static void refuses(String what, String want, DeltaCodec x, LongSupplier call) {
        long before = x.digest();
        boolean hadPlan = x.hasPlan();
        isText(what, "throws " + want, answer(call));
        is(what + " leaves the digest", before, x.digest());
        is(what + " leaves the plan", hadPlan ? 1 : 0, x.hasPlan() ? 1 : 0);
    }

    static void refusesAll(String what, String want, DeltaCodec x, IntConsumer call, int... wrongOnes) {
        for (int value : wrongOnes) {
            refuses(what + " with " + value, want, x, () -> {
                call.accept(value);
                return 0;
            });
        }
    }

    static String answer(LongSupplier call) {
        try {
            return String.valueOf(call.getAsLong());
        } catch (RuntimeException e) {
            return "throws " + e.getClass().getSimpleName();
        }
    }

    /** In pieces of eight, because an object is promised for 512 calls alone. */
    static void append(DeltaCodec x, int side, String text) {
        for (int from = 0; from < text.length(); from += 8) {
            int to = Math.min(from + 8, text.length());
            long bytes = 0;
            for (int i = from; i < to; i++) {
                bytes = bytes << 8 | text.charAt(i);
            }
            x.feed(side, bytes, to - from);
        }
    }

    static void append(Model y, int side, String text) {
        for (int i = 0; i < text.length(); i++) {
            y.fill(side, text.charAt(i), 1);
        }
    }

    static DeltaCodec codec(String source, String target) {
        DeltaCodec x = new DeltaCodec();
        append(x, 0, source);
        append(x, 1, target);
        return x;
    }

    /** Different bytes from a first one on. */
    static String climb(int first, int many) {
        StringBuilder text = new StringBuilder();
        for (int i = 0; i < many; i++) {
            text.append((char) (first + i));
        }
        return text.toString();
    }

    static String string(DeltaCodec x, int side) {
        StringBuilder text = new StringBuilder();
        for (int i = 0; i < x.size(side); i++) {
            text.append((char) x.byteAt(side, i));
        }
        return text.toString();
    }

    static void code(DeltaCodec x, int... bytes) {
        x.cutCode(x.codeSize());
        for (int value : bytes) {
            x.appendCode(value);
        }
    }

    static String code(DeltaCodec x) {
        StringBuilder text = new StringBuilder();
        for (int i = 0; i < x.codeSize(); i++) {
            text.append(i == 0 ? "" : " ").append(x.code(i));
        }
        return text.toString();
    }

    static String output(DeltaCodec x) {
        StringBuilder text = new StringBuilder();
        for (int i = 0; i < x.outputSize(); i++) {
            text.append((char) x.output(i));
        }
        return text.toString();
    }

    /** Each instruction as kind:n:operand@start. */
    static String plan(DeltaCodec x) {
        StringBuilder text = new StringBuilder();
        int many = x.plan();
        for (int i = 0; i < many; i++) {
            text.append(i == 0 ? "" : " ").append(x.kind(i)).append(':').append(x.length(i));
            text.append(':').append(x.operand(i)).append('@').append(x.start(i));
        }
        return text.toString();
    }

    /** All that an object tells of itself, in few calls; the digest stands for strings and codes. */
    static String state(DeltaCodec x) {
        StringBuilder text = new StringBuilder("digest ").append(x.digest());
        text.append(", error at ").append(x.errorPosition());
        text.append(", differences ").append(x.differences());
        int made = x.outputSize();
        for (int place = 0; place < made; place += 1 + made / 8) {
            text.append(", output ").append(x.output(place));
        }
        if (x.hasPlan()) {
            text.append(", cost ").append(x.cost()).append(", ratio ").append(x.ratio());
            text.append(", plan ").append(plan(x));
        }
        return text.toString();
    }

    static void end() {
        System.out.println(seen + " answers, " + wrong + " of them not as due");
        if (wrong != 0 || seen == 0) {
            System.exit(1);
        }
    }

    private static void report(String what, String got, String want) {
        wrong++;
        if (wrong <= 50) {
            System.out.println(what + " answered " + got + ", due is " + want);
        }
    }
}
