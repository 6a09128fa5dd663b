/** Promises 30 to 34: decoding. */
public final class DecodeTest {
    private static final int LOW = Integer.MIN_VALUE;
    private static final int HIGH = Integer.MAX_VALUE;

    public static void main(String[] args) {
        rightCodes();
        endsEarly();
        badNumbers();
        badPlaces();
        tooMuch();
        badChecks();
        orderOfErrors();
        latestDecoding();
        differences();
        Due.end();
    }

    /** Decodes a code, whose last two bytes are the check bytes, and looks at all that it left. */
    private static void decodes(String source, int error, int position, String made, int... code) {
        DeltaCodec x = Due.codec(source, "");
        Due.code(x, code);
        StringBuilder text = new StringBuilder(" of");
        for (int value : code) {
            text.append(' ').append(value);
        }
        Due.is("decode" + text, error, x.decode());
        Due.is("errorPosition" + text, position, x.errorPosition());
        Due.is("outputSize" + text, made.length(), x.outputSize());
        Due.isText("output" + text, made, Due.output(x));
    }

    private static void rightCodes() {
        decodes("", 0, -1, "", 0, 0);
        decodes("", 0, -1, "abc", 3, 97, 98, 99, 43, 84);
        decodes("xabc", 0, -1, "abc", 67, 1, 43, 84);
        decodes("", 0, -1, "aaa", 195, 97, 40, 80);
        decodes("", 0, -1, "aaa", 1, 97, 130, 0, 40, 80);
        decodes("abc", 0, -1, "abc", 67, 128, 0, 43, 84);
        decodes("", 0, -1, "a", 193, 97, 97, 97);
        decodes("a", 0, -1, "a", 65, 0, 97, 97);
        DeltaCodec x = new DeltaCodec();
        Due.code(x, 255, 237, 1, 0, 0, 0);
        Due.is("decode of 300 bytes", 0, x.decode());
        Due.is("300 bytes", 300, x.outputSize());
        Due.is("the last of 300", 0, x.output(299));
    }

    private static void endsEarly() {
        decodes("", 1, 0, "");
        decodes("", 1, 1, "", 7);
        decodes("", 1, 1, "", 3, 9, 9);
        decodes("", 1, 3, "", 3, 97, 98, 9, 9);
        decodes("abc", 1, 1, "", 67, 0, 0);
        decodes("abc", 1, 2, "", 67, 128, 0, 0);
        decodes("abc", 1, 4, "ab", 2, 97, 98, 67, 0, 0);
        decodes("", 1, 1, "", 195, 0, 0);
        decodes("", 1, 1, "", 63, 0, 0);
        decodes("", 1, 2, "", 63, 129, 0, 0);
        decodes("", 1, 3, "", 63, 255, 127, 0, 0);
        decodes("", 1, 2, "", 255, 0, 0, 0);
    }

    private static void badNumbers() {
        decodes("", 2, 0, "", 0, 1, 1);
        decodes("abc", 2, 0, "", 64, 0, 1, 1);
        decodes("", 2, 0, "", 128, 0, 1, 1);
        decodes("", 2, 0, "", 192, 0, 1, 1);
        decodes("", 2, 2, "a", 1, 97, 192, 0, 1, 1);
        decodes("abc", 2, 2, "", 67, 128, 128, 0, 0);
        decodes("abc", 2, 2, "", 127, 128, 255, 0, 0, 0);
        decodes("abc", 2, 4, "a", 1, 97, 131, 200, 200, 0, 0);
        decodes("abc", 3, 0, "", 67, 128, 127, 0, 0);
    }

    private static void badPlaces() {
        decodes("abc", 3, 0, "", 68, 0, 0, 0);
        decodes("abc", 3, 0, "", 67, 1, 0, 0);
        decodes("abc", 3, 0, "", 65, 3, 0, 0);
        decodes("abc", 5, 2, "c", 65, 2, 0, 0);
        decodes("", 3, 0, "", 65, 0, 0, 0);
        decodes("abc", 3, 0, "", 129, 0, 0, 0);
        decodes("abc", 3, 2, "a", 1, 97, 129, 1, 0, 0);
        decodes("abc", 5, 4, "aa", 1, 97, 129, 0, 0, 0);
        decodes("abc", 3, 4, "abcabc", 67, 0, 67, 0, 67, 1, 0, 0);
    }

    private static void tooMuch() {
        decodes("", 4, 0, "", 255, 238, 1, 9, 0, 0);
        decodes("", 4, 0, "", 255, 255, 127, 9, 0, 0);
        decodes("", 4, 4, "\u0009".repeat(300), 255, 237, 1, 9, 1, 7, 0, 0);
        decodes("", 4, 4, "\u0009".repeat(299), 255, 236, 1, 9, 194, 7, 0, 0);
        decodes("", 5, 6, "\u0009".repeat(299) + "\u0007", 255, 236, 1, 9, 193, 7, 0, 0);
        decodes("", 4, 2, "a", 1, 97, 191, 237, 1, 0, 0, 0);
        decodes("", 4, 4, "\u0009".repeat(298), 255, 235, 1, 9, 131, 0, 0, 0);
        DeltaCodec x = new DeltaCodec();
        Due.code(x, 63, 238, 1);
        for (int i = 0; i < 303; i++) {
            x.appendCode(1);
        }
        Due.is("an ADD of 301", 4, x.decode());
        Due.is("its position", 0, x.errorPosition());
        x.setCode(1, 237);
        x.setCode(303, 0);
        Due.is("an ADD of 300 and a head of 0", 2, x.decode());
        Due.is("the position of this head", 303, x.errorPosition());
        Due.is("300 are made", 300, x.outputSize());
    }

    private static void badChecks() {
        decodes("", 5, 0, "", 1, 0);
        decodes("", 5, 0, "", 0, 1);
        decodes("", 5, 4, "abc", 3, 97, 98, 99, 84, 43);
        decodes("", 5, 4, "abc", 3, 97, 98, 99, 43, 85);
        decodes("", 5, 4, "abc", 3, 97, 98, 99, 44, 84);
        decodes("", 5, 2, "\u00fb", 1, 251, 251, 251);
    }

    private static void orderOfErrors() {
        // An instruction is read as a whole before its place and its size are looked at.
        decodes("abc", 1, 3, "", 127, 5, 128, 0, 0);
        decodes("abc", 2, 3, "", 127, 5, 128, 128, 0, 0);
        decodes("", 1, 3, "", 255, 255, 127, 0, 0);
        decodes("", 3, 0, "", 127, 255, 127, 0, 0, 0);
        decodes("", 3, 0, "", 191, 255, 127, 0, 0, 0);
        // A head of 0 is wrong before anything behind it is.
        decodes("", 2, 0, "", 64, 9, 9);
        decodes("", 2, 0, "", 128, 128, 128, 9, 9);
        decodes("", 2, 0, "", 192, 9, 9);
    }

    private static void latestDecoding() {
        DeltaCodec x = Due.codec("abc", "abcd");
        Due.code(x, 67, 0, 43, 84);
        Due.is("decode", 0, x.decode());
        x.turn();
        x.setLeast(5);
        x.cutCode(4);
        Due.isText("the output stays", "abc", Due.output(x));
        Due.refusesAll("output", Due.INDEX, x, x::output, -1, 3, 300, LOW, HIGH);
        Due.is("decode with an empty code", 1, x.decode());
        Due.is("its position", 0, x.errorPosition());
        Due.is("its size", 0, x.outputSize());
        Due.refuses("no output", Due.INDEX, x, () -> x.output(0));
        Due.code(x, 68, 0, 137, 103);
        Due.is("decode with the turned source", 5, x.decode());
        Due.isText("its output", "abcd", Due.output(x));
        x.setCode(2, (97 + 98 + 99 + 100) % 251);
        x.setCode(3, (97 * 4 + 98 * 3 + 99 * 2 + 100) % 251);
        Due.is("decode with the right check", 0, x.decode());
        Due.is("no error any more", -1, x.errorPosition());
        x.plan();
        x.decode();
        Due.is("decode keeps the plan", 1, x.hasPlan() ? 1 : 0);
        Due.refuses("output of a new object", Due.INDEX, new DeltaCodec(), () -> new DeltaCodec().output(0));
    }

    private static void differences() {
        DeltaCodec x = Due.codec("", "abcd");
        Due.is("differences to nothing", 4, x.differences());
        Due.code(x, 3, 97, 120, 99, 0, 0);
        x.decode();
        Due.is("one other and one missing", 2, x.differences());
        x.cut(1, 2);
        Due.is("one other and one too much", 2, x.differences());
        x.cut(1, 2);
        Due.is("differences of no target", 3, x.differences());
        Due.append(x, 1, "axc");
        Due.is("no differences", 0, x.differences());
        x.set(1, 0, 0);
        Due.is("one difference", 1, x.differences());
        x.cut(1, 3);
        Due.code(x, 194, 0, 0, 0);
        x.decode();
        Due.is("zeros count, too", 2, x.differences());
    }
}
