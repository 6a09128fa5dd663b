import java.math.BigInteger;
import java.util.ArrayList;
import java.util.Arrays;
import java.util.List;

/**
 * Promises 30 to 35, the sentences that name a boundary: each error just inside and just outside of
 * its limit, for each kind of instruction, and which of two errors is told.
 */
public final class DecodeBoundsTest {
    private static final String ALL = Due.climb(1, 150);

    public static void main(String[] args) {
        fewerThanTwoBytes();
        endsInside();
        lengthOfZero();
        secondByteOfNumber();
        copyBeyondTheSource();
        repeatOfWhatWasMade();
        upTo300();
        wrongCheck();
        wholeInstructionFirst();
        firstErrorInTheCode();
        nothingOfAWrongInstruction();
        fullCode();
        latestDecoding();
        whatDecodingLeaves();
        outputPlaces();
        differences();
        digestWrapsAround();
        digestOfAllParts();
        lastOf512Calls();
        Due.end();
    }

    /** A code without its check bytes: right ones are put behind it. */
    private static void right(String source, String made, int... instructions) {
        int a = 0;
        int b = 0;
        for (int i = 0; i < made.length(); i++) {
            a += made.charAt(i);
            b += a;
        }
        int[] code = Arrays.copyOf(instructions, instructions.length + 2);
        code[instructions.length] = a % 251;
        code[instructions.length + 1] = b % 251;
        decodes(source, 0, -1, made, code);
    }

    /** Decodes a whole code, and looks at all that it left. */
    private static DeltaCodec decodes(String source, int error, int position, String made, int... code) {
        DeltaCodec x = Due.codec(source, "");
        Due.code(x, code);
        StringBuilder text = new StringBuilder(" of");
        for (int i = 0; i < code.length && i < 20; i++) {
            text.append(' ').append(code[i]);
        }
        Due.is("decode" + text, error, x.decode());
        Due.is("errorPosition" + text, position, x.errorPosition());
        Due.is("outputSize" + text, made.length(), x.outputSize());
        Due.is("differences" + text, made.length(), x.differences());
        if (made.length() <= 150) {
            Due.isText("output" + text, made, Due.output(x));
        } else {
            Due.is("first output" + text, made.charAt(0), x.output(0));
            Due.is("last output" + text, made.charAt(made.length() - 1), x.output(made.length() - 1));
        }
        return x;
    }

    /** "1: the code has fewer than two bytes (position: its size)" */
    private static void fewerThanTwoBytes() {
        decodes("abc", 1, 0, "");
        decodes("abc", 1, 1, "", 0);
        decodes("abc", 1, 1, "", 255);
        decodes("abc", 0, -1, "", 0, 0);
    }

    /** "or the bytes of instructions end inside an instruction (position: that of the first check byte)" */
    private static void endsInside() {
        for (int n : new int[] {1, 2, 3, 62, 63, 64}) {
            // An ADD with all of its bytes, and each time fewer of them.
            List<Integer> whole = new ArrayList<>();
            whole.add(Math.min(n, 63));
            if (n >= 63) {
                whole.add(n - 63);
            }
            for (int i = 0; i < n; i++) {
                whole.add(1 + i);
            }
            for (int bytes = 1; bytes < whole.size(); bytes++) {
                int[] code = new int[bytes + 2];
                for (int i = 0; i < bytes; i++) {
                    code[i] = whole.get(i);
                }
                decodes("abc", 1, bytes, "", code);
            }
            right("", Due.climb(1, n), whole.stream().mapToInt(i -> i).toArray());
        }
        decodes("abc", 1, 1, "", 65, 0, 0);
        decodes("abc", 1, 1, "", 127, 0, 0);
        decodes("abc", 1, 2, "", 127, 0, 0, 0);
        decodes("abc", 1, 2, "", 127, 128, 0, 0);
        decodes("abc", 1, 3, "", 127, 128, 0, 0, 0);
        decodes("abc", 1, 2, "", 65, 128, 0, 0);
        decodes("abc", 1, 3, "a", 65, 0, 65, 0, 0);
        decodes("abc", 1, 3, "a", 65, 0, 129, 0, 0);
        decodes("abc", 1, 4, "a", 65, 0, 129, 128, 0, 0);
        decodes("abc", 1, 3, "a", 65, 0, 191, 0, 0);
        decodes("abc", 1, 4, "a", 65, 0, 191, 1, 0, 0);
        decodes("abc", 1, 1, "", 193, 0, 0);
        decodes("abc", 1, 1, "", 255, 0, 0);
        decodes("abc", 1, 2, "", 255, 0, 0, 0);
        decodes("abc", 1, 2, "", 255, 255, 0, 0);
        decodes("abc", 1, 3, "", 255, 255, 127, 0, 0);
        decodes("abc", 1, 3, "a", 65, 0, 193, 0, 0);
        // The check bytes are not read as bytes of instructions, even if they would be right ones.
        decodes("abc", 1, 2, "", 1 + 1, 97, 97, 97);
        decodes("abc", 1, 1, "", 1, 1, 0);
    }

    /** "2: n is 0 (position: that of the head)" */
    private static void lengthOfZero() {
        for (int kind = 0; kind <= 3; kind++) {
            int head = 64 * kind;
            decodes("abc", 2, 0, "", head, 0, 0);
            decodes("abc", 2, 0, "", head, 0, 0, 0);
            decodes("abc", 2, 0, "", head, 0, 0, 0, 0);
            decodes("abc", 2, 2, "a", 1, 97, head, 0, 0);
            decodes("abc", 2, 2, "a", 1, 97, head, 0, 97, 97);
            decodes("abc", 2, 4, "aa", 1, 97, 65, 0, head, 0, 0, 0);
        }
        // The number behind a head of 63 may be 0: n is 63 then.
        right("", "z".repeat(63), 255, 0, 122);
    }

    /** "or the second byte of a number is 128 or more (position: that of this byte)" */
    private static void secondByteOfNumber() {
        for (int wrong : new int[] {128, 129, 254, 255}) {
            decodes(ALL, 2, 2, "", 65, 128, wrong, 0, 0);
            decodes(ALL, 2, 2, "", 127, 128, wrong, 0, 0, 0);
            decodes(ALL, 2, 3, "", 127, 0, 128, wrong, 0, 0);
            decodes(ALL, 2, 4, "", 127, 128, 0, 128, wrong, 0, 0);
            decodes(ALL, 2, 4, "a", 1, 97, 129, 128, wrong, 0, 0);
            decodes(ALL, 2, 4, "a", 1, 97, 191, 128, wrong, 0, 0, 0);
            decodes(ALL, 2, 2, "", 255, 200, wrong, 9, 0, 0);
            decodes(ALL, 2, 2, "", 63, 200, wrong, 9, 0, 0);
        }
        // A second byte of 127 is none of 128 or more; only the place is wrong.
        decodes(ALL, 3, 0, "", 65, 128, 127, 0, 0);
        decodes(ALL, 3, 0, "", 65, 255, 127, 0, 0);
        decodes(ALL, 4, 0, "", 255, 255, 127, 9, 0, 0);
        right(ALL, "\u0001", 65, 0);
        right(ALL, "\u0080", 65, 127);
        right(ALL, "\u0081", 65, 128, 1);
        right(ALL, "\u0096", 65, 149, 1);
        // Written longer than it must be, it is still a number.
        right(ALL, "\u0001", 65, 128, 0);
        right(ALL, "\u0080", 65, 255, 0);
        right("", "z".repeat(63), 255, 128, 0, 122);
        right("", "z".repeat(190), 255, 127, 122);
        right("", "z".repeat(191), 255, 128, 1, 122);
        right("", "z".repeat(192), 255, 129, 1, 122);
    }

    /** "3: a COPY goes beyond the end of the source (position: that of the head)" */
    private static void copyBeyondTheSource() {
        decodes("", 3, 0, "", 65, 0, 0, 0);
        right("a", "a", 65, 0);
        decodes("a", 3, 0, "", 66, 0, 0, 0);
        decodes("a", 3, 0, "", 65, 1, 0, 0);
        right("abc", "abc", 67, 0);
        right("abc", "bc", 66, 1);
        right("abc", "c", 65, 2);
        decodes("abc", 3, 0, "", 68, 0, 0, 0);
        decodes("abc", 3, 0, "", 67, 1, 0, 0);
        decodes("abc", 3, 0, "", 66, 2, 0, 0);
        decodes("abc", 3, 0, "", 65, 3, 0, 0);
        decodes("abc", 3, 0, "", 65, 4, 0, 0);
        right(ALL, ALL, 127, 87, 0);
        decodes(ALL, 3, 0, "", 127, 88, 0, 0, 0);
        decodes(ALL, 3, 0, "", 127, 87, 1, 0, 0);
        decodes(ALL, 3, 0, "", 65, 150, 1, 0, 0);
        decodes(ALL, 3, 2, "a", 1, 97, 66, 149, 1, 0, 0);
        // What was made is longer, but a COPY is of the source.
        decodes("a", 3, 2, "zzzz", 196, 122, 66, 0, 0, 0);
    }

    /** "or p of a REPEAT is not less than the size of what was made" */
    private static void repeatOfWhatWasMade() {
        decodes(ALL, 3, 0, "", 129, 0, 0, 0);
        decodes(ALL, 3, 0, "", 129, 1, 0, 0);
        right("", "aa", 1, 97, 129, 0);
        decodes(ALL, 3, 2, "a", 1, 97, 129, 1, 0, 0);
        decodes(ALL, 3, 2, "a", 1, 97, 129, 2, 0, 0);
        right("", "abcc", 3, 97, 98, 99, 129, 2);
        decodes(ALL, 3, 4, "abc", 3, 97, 98, 99, 129, 3, 0, 0);
        // "bytes that it has made itself can be repeated, too"
        right("", "abcccc", 3, 97, 98, 99, 131, 2);
        right("", "abcbcbc", 3, 97, 98, 99, 132, 1);
        right("", "abcabca", 3, 97, 98, 99, 132, 0);
        right("", "ab" + "ab".repeat(32), 2, 97, 98, 191, 1, 0);
        right("", "a".repeat(300), 1, 97, 191, 236, 1, 0);
        decodes("", 3, 4, "z".repeat(200), 255, 137, 1, 122, 129, 200, 1, 0, 0);
        right("", "z".repeat(201), 255, 137, 1, 122, 129, 199, 1);
    }

    /** "4: more than 300 bytes would be made (position: that of the head)" */
    private static void upTo300() {
        right("", "z".repeat(299), 255, 236, 1, 122);
        right("", "z".repeat(300), 255, 237, 1, 122);
        decodes("", 4, 0, "", 255, 238, 1, 122, 0, 0);
        String most = "z".repeat(299);
        right("", most + "a", 255, 236, 1, 122, 1, 97);
        decodes("", 4, 4, most, 255, 236, 1, 122, 2, 97, 98, 0, 0);
        right("a", most + "a", 255, 236, 1, 122, 65, 0);
        decodes("ab", 4, 4, most, 255, 236, 1, 122, 66, 0, 0, 0);
        right("", most + "z", 255, 236, 1, 122, 129, 0);
        decodes("", 4, 4, most, 255, 236, 1, 122, 130, 0, 0, 0);
        right("", most + "y", 255, 236, 1, 122, 193, 121);
        decodes("", 4, 4, most, 255, 236, 1, 122, 194, 121, 0, 0);
        String full = "z".repeat(300);
        decodes("", 4, 4, full, 255, 237, 1, 122, 1, 97, 0, 0);
        decodes("a", 4, 4, full, 255, 237, 1, 122, 65, 0, 0, 0);
        decodes("", 4, 4, full, 255, 237, 1, 122, 129, 0, 0, 0);
        decodes("", 4, 4, full, 255, 237, 1, 122, 193, 0, 0, 0);
        right(ALL, ALL + ALL, 127, 87, 0, 127, 87, 0);
        decodes(ALL, 4, 6, ALL + ALL, 127, 87, 0, 127, 87, 0, 65, 0, 0, 0);
    }

    /** "5: the check bytes are wrong (position: that of the first one)" */
    private static void wrongCheck() {
        decodes("", 5, 0, "", 1, 0);
        decodes("", 5, 0, "", 0, 1);
        decodes("", 5, 0, "", 251, 0);
        decodes("", 5, 0, "", 0, 251);
        decodes("", 5, 0, "", 255, 255);
        decodes("", 5, 2, "a", 1, 97, 98, 97);
        decodes("", 5, 2, "a", 1, 97, 97, 98);
        decodes("", 5, 2, "a", 1, 97, 96, 97);
        decodes("", 5, 3, "ab", 2, 97, 98, 41, 195);
        decodes("", 0, -1, "ab", 2, 97, 98, 195, 41);
        decodes("", 5, 2, "\u00fb", 1, 251, 251, 0);
        decodes("", 5, 2, "\u00fb", 1, 251, 0, 251);
        decodes("", 0, -1, "\u00fb", 1, 251, 0, 0);
        decodes("", 5, 2, "\4", 1, 4, 255, 4);
        decodes("", 0, -1, "\u00ff", 1, 255, 4, 4);
        right("", "\u00ff".repeat(300), 255, 237, 1, 255);
        decodes("", 5, 4, "\u00ff".repeat(300), 255, 237, 1, 255, 196, 140);
    }

    /** "An instruction is read as a whole before the errors 3 and 4 are looked for; 3 comes before 4." */
    private static void wholeInstructionFirst() {
        // 1 and 2 ahead of 3.
        decodes("", 1, 3, "", 127, 0, 128, 0, 0);
        decodes("", 1, 2, "", 65, 128, 0, 0);
        decodes("", 2, 2, "", 65, 128, 128, 0, 0);
        decodes("", 1, 2, "", 129, 128, 0, 0);
        decodes("", 2, 2, "", 129, 255, 255, 0, 0);
        // 1 and 2 ahead of 4.
        decodes("", 1, 3, "", 255, 238, 1, 0, 0);
        decodes("", 1, 4, "", 63, 238, 1, 9, 0, 0);
        decodes("", 1, 5, "z".repeat(300), 255, 237, 1, 122, 193, 0, 0);
        decodes("", 1, 6, "z".repeat(300), 255, 237, 1, 122, 2, 9, 0, 0);
        decodes("", 2, 6, "z".repeat(300), 255, 237, 1, 122, 129, 128, 128, 0, 0);
        decodes("", 2, 4, "", 191, 238, 1, 128, 128, 0, 0);
        // 3 ahead of 4.
        decodes("abc", 3, 0, "", 127, 238, 1, 0, 0, 0);
        decodes("abc", 3, 0, "", 191, 238, 1, 0, 0, 0);
        decodes("abc", 3, 4, "z".repeat(300), 255, 237, 1, 122, 68, 0, 0, 0);
        decodes("abc", 3, 4, "z".repeat(300), 255, 237, 1, 122, 129, 172, 2, 0, 0);
        decodes("abc", 4, 4, "z".repeat(300), 255, 237, 1, 122, 129, 171, 2, 0, 0);
        // All of them ahead of 5, which is looked for at the end alone.
        decodes("abc", 3, 0, "", 65, 3, 1, 1);
        decodes("abc", 2, 0, "", 0, 1, 1);
    }

    /** "It ends with the first error, and what was made until then is kept" */
    private static void firstErrorInTheCode() {
        decodes("abc", 3, 2, "a", 65, 0, 65, 3, 0, 1, 97, 97);
        decodes("abc", 2, 2, "a", 65, 0, 0, 65, 3, 0, 0);
        decodes("abc", 4, 2, "a", 65, 0, 255, 237, 1, 9, 0, 0, 0);
        decodes("abc", 3, 4, "ab", 65, 0, 65, 1, 129, 2, 65, 2, 97, 97);
        decodes("abc", 1, 3, "a", 65, 0, 65, 0, 0);
        // n of 0 is seen with the head, before the end of the instruction is.
        decodes("abc", 2, 0, "", 64, 0, 0);
        decodes("abc", 2, 0, "", 128, 128, 0, 0);
        decodes("abc", 2, 0, "", 192, 0, 0);
        // The second byte of n is read before p is.
        decodes("abc", 2, 2, "", 127, 128, 128, 0, 0);
        decodes("abc", 2, 2, "", 127, 128, 128, 128, 128, 0, 0);
    }

    /** "of an instruction with an error nothing is made" */
    private static void nothingOfAWrongInstruction() {
        decodes("abc", 3, 2, "x", 1, 120, 67, 1, 0, 0);
        decodes("abc", 4, 2, "x", 1, 120, 191, 237, 1, 0, 0, 0);
        decodes("abc", 1, 4, "x", 1, 120, 3, 97, 0, 0);
        decodes("abc", 4, 4, "z".repeat(298), 255, 235, 1, 122, 195, 9, 0, 0);
        decodes("abc", 4, 4, "z".repeat(298), 255, 235, 1, 122, 67, 0, 0, 0);
    }

    /** Codes of 400 bytes: the last instruction ends at 398, or one byte too late. */
    private static void fullCode() {
        DeltaCodec x = new DeltaCodec();
        Due.code(x, 63, 237, 1);
        for (int i = 0; i < 300; i++) {
            x.appendCode(0);
        }
        x.appendCode(0);
        x.appendCode(0);
        Due.is("an ADD of 300", 0, x.decode());
        Due.is("makes 300", 300, x.outputSize());
        x.setCode(1, 238);
        Due.is("an ADD of 301 of 300", 1, x.decode());
        Due.is("ends at the first check byte", 303, x.errorPosition());
        x.appendCode(0);
        Due.is("an ADD of 301", 4, x.decode());
        Due.is("at its head", 0, x.errorPosition());
        Due.is("makes nothing", 0, x.outputSize());
        DeltaCodec full = new DeltaCodec();
        for (int i = 0; i < 199; i++) {
            full.appendCode(193);
            full.appendCode(0);
        }
        full.appendCode(0);
        full.appendCode(0);
        Due.is("199 instructions", 0, full.decode());
        Due.is("make 199", 199, full.outputSize());
        Due.is("no error", -1, full.errorPosition());
        lastOfFullCode(full, 2, 1, 398);
        lastOfFullCode(full, 0, 2, 396);
        lastOfFullCode(full, 65, 3, 396);
        lastOfFullCode(full, 129, 0, -1);
        lastOfFullCode(full, 255, 1, 398);
        full.setCode(399, 1);
        lastOfFullCode(full, 193, 5, 398);
        full.setCode(0, 255);
        Due.is("a longer first one", 2, full.decode());
        Due.is("takes the next head as its byte", 3, full.errorPosition());
        Due.is("63 times", 63, full.outputSize());
    }

    /** Another head for the last instruction, at 396, behind 198 bytes of 0. */
    private static void lastOfFullCode(DeltaCodec full, int head, int error, int position) {
        full.setCode(396, head);
        Due.is("decode with a last head of " + head, error, full.decode());
        Due.is("errorPosition with a last head of " + head, position, full.errorPosition());
        int made = error == 0 || error == 5 ? 199 : 198;
        Due.is("outputSize with a last head of " + head, made, full.outputSize());
    }

    /** "the error of the latest decoding; -1 if there was none" */
    private static void latestDecoding() {
        DeltaCodec x = Due.codec("abc", "");
        Due.is("no decoding: position", -1, x.errorPosition());
        Due.is("no decoding: size", 0, x.outputSize());
        x.decode();
        Due.is("an empty code: position", 0, x.errorPosition());
        Due.code(x, 67, 0, 43, 84);
        Due.is("another code changes nothing yet", 0, x.errorPosition());
        Due.is("decode", 0, x.decode());
        Due.is("no error any more", -1, x.errorPosition());
        Due.is("three bytes", 3, x.outputSize());
        x.setCode(3, 85);
        Due.is("decode with a wrong check", 5, x.decode());
        Due.is("its position", 2, x.errorPosition());
        Due.is("still three bytes", 3, x.outputSize());
        x.cut(0, 1);
        Due.is("a shorter source changes nothing yet", 3, x.outputSize());
        Due.is("decode with a shorter source", 3, x.decode());
        Due.is("its position", 0, x.errorPosition());
        Due.is("nothing is made", 0, x.outputSize());
        x.turn();
        Due.is("decode with an empty source", 3, x.decode());
        x.turn();
        x.setCode(0, 66);
        x.setCode(2, 195);
        x.setCode(3, 41);
        Due.is("decode of two bytes", 0, x.decode());
        Due.isText("two bytes", "ab", Due.output(x));
        x.setCode(0, 65);
        x.setCode(2, 97);
        x.setCode(3, 97);
        Due.is("decode of one byte", 0, x.decode());
        Due.isText("one byte", "a", Due.output(x));
        x.cutCode(4);
        x.decode();
        Due.is("nothing is kept of the one before", 0, x.outputSize());
    }

    /** Decoding changes neither the strings nor the plan nor the code. */
    private static void whatDecodingLeaves() {
        DeltaCodec x = Due.codec("abcd", "xabcd");
        x.plan();
        x.encode();
        String plan = Due.plan(x);
        String code = Due.code(x);
        x.decode();
        x.cutCode(1);
        x.decode();
        Due.isText("source", "abcd", Due.string(x, 0));
        Due.isText("target", "xabcd", Due.string(x, 1));
        Due.isText("plan", plan, Due.plan(x));
        Due.isText("code", code.substring(0, code.lastIndexOf(' ')), Due.code(x));
    }

    private static void outputPlaces() {
        DeltaCodec x = new DeltaCodec();
        Due.refuses("output of a new object", Due.INDEX, x, () -> x.output(0));
        Due.code(x, 1, 7, 255, 236, 1, 9, 0, 0);
        x.decode();
        Due.is("300 bytes", 300, x.outputSize());
        Due.is("the first one", 7, x.output(0));
        Due.is("the second one", 9, x.output(1));
        Due.is("the last one", 9, x.output(299));
        Due.refusesAll("output", Due.INDEX, x, x::output, -1, 300);
        Due.code(x, 0, 0);
        x.decode();
        Due.refuses("output of nothing", Due.INDEX, x, () -> x.output(0));
    }

    /** "places at which only one of them has a byte are counted, too" */
    private static void differences() {
        DeltaCodec x = new DeltaCodec();
        Due.is("nothing and nothing", 0, x.differences());
        x.fill(1, 0, 150);
        Due.is("150 and nothing", 150, x.differences());
        Due.code(x, 255, 237, 1, 0, 0, 0);
        x.decode();
        Due.is("150 and 300 of 0", 150, x.differences());
        x.fill(0, 5, 1);
        x.set(1, 149, 1);
        Due.is("the last one is different", 151, x.differences());
        x.set(1, 0, 1);
        Due.is("the first one, too", 152, x.differences());
        x.cut(1, 150);
        Due.is("nothing and 300", 300, x.differences());
        Due.code(x, 255, 87, 0, 0, 0);
        x.decode();
        x.fill(1, 0, 149);
        Due.is("149 and 150", 1, x.differences());
        x.fill(1, 0, 1);
        Due.is("150 and 150", 0, x.differences());
        x.cut(1, 150);
        x.fill(1, 255, 150);
        Due.is("150 others", 150, x.differences());
        x.advance();
        Due.is("the target is empty", 150, x.differences());
    }

    private static void digestIs(String what, DeltaCodec x, List<Integer> numbers) {
        BigInteger d = BigInteger.valueOf(101);
        for (int number : numbers) {
            d = d.multiply(BigInteger.valueOf(31)).add(BigInteger.valueOf(number));
        }
        Due.is(what, d.longValue(), x.digest());
        Due.is(what + " again", d.longValue(), x.digest());
    }

    /** "which wraps around as a 64-bit integer" */
    private static void digestWrapsAround() {
        DeltaCodec x = new DeltaCodec();
        List<Integer> numbers = new ArrayList<>(List.of(0, 0, 3, 0, 0));
        digestIs("digest of a new object", x, numbers);
        // 101 * 31^n is beyond 64 bits from n = 12 on: each size about that.
        for (int size = 1; size <= 20; size++) {
            x.fill(0, 255, 1);
            numbers.set(0, size);
            numbers.add(1, 255);
            digestIs("digest of a source of " + size, x, numbers);
        }
        DeltaCodec full = new DeltaCodec();
        full.fill(0, 255, 150);
        full.fill(1, 0, 150);
        List<Integer> all = new ArrayList<>();
        all.add(150);
        for (int i = 0; i < 150; i++) {
            all.add(255);
        }
        all.add(150);
        for (int i = 0; i < 150; i++) {
            all.add(0);
        }
        all.addAll(List.of(3, 0, 0));
        digestIs("digest of full strings", full, all);
    }

    private static void digestOfAllParts() {
        DeltaCodec x = new DeltaCodec();
        x.plan();
        digestIs("an empty plan counts", x, List.of(0, 0, 3, 0, 0, 0));
        x.setLeast(20);
        digestIs("without a plan", x, List.of(0, 0, 20, 0, 0));
        x.setLeast(1);
        x.fill(1, 0, 2);
        x.plan();
        digestIs("a plan of one", x, List.of(0, 2, 0, 0, 1, 1, 3, 2, 0, 0, 0));
        x.encode();
        digestIs("a code", x, List.of(0, 2, 0, 0, 1, 1, 3, 2, 0, 4, 194, 0, 0, 0, 0));
        x.decode();
        digestIs("an output", x, List.of(0, 2, 0, 0, 1, 1, 3, 2, 0, 4, 194, 0, 0, 0, 2));
        x.setCode(3, 1);
        x.decode();
        digestIs("an output of an error", x, List.of(0, 2, 0, 0, 1, 1, 3, 2, 0, 4, 194, 0, 0, 1, 2));
        x.cutCode(4);
        digestIs("an empty code", x, List.of(0, 2, 0, 0, 1, 1, 3, 2, 0, 0, 2));
        x.decode();
        digestIs("no output", x, List.of(0, 2, 0, 0, 1, 1, 3, 2, 0, 0, 0));
        x.turn();
        digestIs("turned", x, List.of(2, 0, 0, 0, 1, 0, 0));
    }

    /** "An object is used for at most 512 calls after it has been made" */
    private static void lastOf512Calls() {
        DeltaCodec x = new DeltaCodec();
        for (int call = 1; call <= 400; call++) {
            x.appendCode(call % 256);
        }
        for (int call = 401; call <= 509; call++) {
            Due.is("call " + call, call - 400, x.fill(1, call % 2, 1));
        }
        Due.is("call 510", 109, x.size(1));
        Due.is("call 511", 2, x.plan());
        Due.is("call 512", 8, x.encode());
    }
}
