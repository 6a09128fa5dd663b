/**
 * Promises 1 to 13, the sentences that name a boundary: sizes of 0 and 150, bytes of 0 and 255,
 * first and last places, sums that wrap around. What is refused is in RefusalTest.
 */
public final class StringBoundsTest {
    public static void main(String[] args) {
        newObject();
        feedTakesTheLowestBytes();
        feedUpTo150();
        fillFrom1To150();
        allBytes();
        cutFromNothingToAll();
        setFirstAndLast();
        turnEmptyAndFull();
        advanceEmptyAndFull();
        checkOfParts();
        checkWrapsAround();
        matchInSource();
        matchAtTheEnds();
        matchInTarget();
        blocksAtTheEnds();
        blocksOfAllSizes();
        Due.end();
    }

    /** "empty strings, without a plan and with an empty code; nothing was decoded" */
    private static void newObject() {
        DeltaCodec x = new DeltaCodec();
        Due.is("new: source", 0, x.size(0));
        Due.is("new: target", 0, x.size(1));
        Due.is("new: plan", 0, x.hasPlan() ? 1 : 0);
        Due.is("new: code", 0, x.codeSize());
        Due.is("new: error", -1, x.errorPosition());
        Due.is("new: output", 0, x.outputSize());
        Due.is("new: differences", 0, x.differences());
        Due.is("new: blocks", 0, x.blocks(1));
        Due.is("new: cut of nothing", 0, x.cut(0, 0));
        Due.is("new: cutCode of nothing", 0, x.cutCode(0));
        Due.is("new: check of nothing", 0, x.check(1, 0, 0));
        Due.is("new: turn", 0, x.turn());
        Due.is("new: advance", 0, x.advance());
        Due.is("new: the least size of a copy", 3, x.setLeast(1));
        Due.is("new: decode", 1, x.decode());
        Due.is("new: its position", 0, x.errorPosition());
        Due.is("new: plan of nothing", 0, x.plan());
        Due.is("new: encode of nothing", 2, x.encode());
    }

    /** "the lowest byte of this number is the last one, the next one the byte ahead of it" */
    private static void feedTakesTheLowestBytes() {
        long[] numbers = {0L, -1L, 1L, Long.MIN_VALUE, Long.MAX_VALUE, 0x0123456789ABCDEFL,
            0xFEDCBA9876543210L, 0x80FF00FF7F8001FEL, 255L, 256L, 0xFFFFFFFFL, 0x100000000L};
        for (long number : numbers) {
            String all = String.format("%016x", number);
            for (int many = 1; many <= 8; many++) {
                String what = "feed of " + many + " of " + all;
                DeltaCodec x = new DeltaCodec();
                Due.is(what, many, x.feed(many % 2, number, many));
                Due.is(what + ", the other side", 0, x.size(1 - many % 2));
                for (int i = 0; i < many; i++) {
                    int digits = 2 * (8 - many + i);
                    int want = Integer.parseInt(all.substring(digits, digits + 2), 16);
                    Due.is(what + ", byte " + i, want, x.byteAt(many % 2, i));
                }
            }
        }
    }

    /** "IllegalStateException if the string would have more than 150 bytes": 150 is no more. */
    private static void feedUpTo150() {
        for (int side = 0; side <= 1; side++) {
            for (int many = 1; many <= 8; many++) {
                DeltaCodec x = new DeltaCodec();
                x.fill(side, 9, 150 - many);
                Due.is("feed of " + many + " up to 150", 150, x.feed(side, 0x0102030405060708L, many));
                Due.is("the last byte", 8, x.byteAt(side, 149));
                Due.is("the first one fed", 9 - many, x.byteAt(side, 150 - many));
                Due.is("the one ahead", 9, x.byteAt(side, 149 - many));
                Due.is("the other side", 0, x.size(1 - side));
            }
        }
        DeltaCodec x = new DeltaCodec();
        for (int size = 8; size <= 144; size += 8) {
            Due.is("feed to " + size, size, x.feed(1, size, 8));
        }
        Due.is("feed of the last 6", 150, x.feed(1, -1L, 6));
        Due.is("the last of them", 255, x.byteAt(1, 149));
        Due.is("the byte ahead of them", 144, x.byteAt(1, 143));
    }

    /** "how often, 1 to 150" */
    private static void fillFrom1To150() {
        for (int side = 0; side <= 1; side++) {
            for (int many : new int[] {1, 2, 149, 150}) {
                DeltaCodec x = new DeltaCodec();
                Due.is("fill of " + many, many, x.fill(side, 255, many));
                Due.is("its first byte", 255, x.byteAt(side, 0));
                Due.is("its last byte", 255, x.byteAt(side, many - 1));
                Due.is("the other side", 0, x.size(1 - side));
                if (many < 150) {
                    Due.is("fill of the rest", 150, x.fill(side, 0, 150 - many));
                    Due.is("the first of the rest", 0, x.byteAt(side, many));
                    Due.is("the last of the rest", 0, x.byteAt(side, 149));
                }
            }
        }
    }

    /** "bytes, 0 to 255": each of them, by each method that takes one. */
    private static void allBytes() {
        for (int value = 0; value <= 255; value++) {
            DeltaCodec x = new DeltaCodec();
            x.fill(0, value, 1);
            x.feed(0, value, 1);
            Due.is("set of " + value, value, x.set(0, 1, 255 - value));
            x.appendCode(value);
            Due.is("filled " + value, value, x.byteAt(0, 0));
            Due.is("set away from " + value, 255 - value, x.byteAt(0, 1));
            Due.is("code " + value, value, x.code(0));
            Due.is("setCode of " + value, value, x.setCode(0, 255 - value));
            Due.is("set code " + (255 - value), 255 - value, x.code(0));
            Due.code(x, 65, 0, value % 251, value % 251);
            Due.is("decode of " + value, 0, x.decode());
            Due.is("output of " + value, value, x.output(0));
            Due.code(x, 193, value, value % 251, value % 251);
            Due.is("decode of a RUN of " + value, 0, x.decode());
            Due.is("output of a RUN of " + value, value, x.output(0));
        }
    }

    /** "if many is negative, or greater than its size": 0 and its size are neither. */
    private static void cutFromNothingToAll() {
        for (int side = 0; side <= 1; side++) {
            DeltaCodec x = new DeltaCodec();
            Due.is("cut of 0 from nothing", 0, x.cut(side, 0));
            x.fill(side, 7, 150);
            x.set(side, 0, 8);
            Due.is("cut of 0 from 150", 150, x.cut(side, 0));
            Due.is("cut of 149 from 150", 1, x.cut(side, 149));
            Due.is("the byte that is left", 8, x.byteAt(side, 0));
            Due.is("cut of 1 from 1", 0, x.cut(side, 1));
            Due.is("fill again", 150, x.fill(side, 1, 150));
            Due.is("cut of 150 from 150", 0, x.cut(side, 150));
            Due.is("feed behind it", 2, x.feed(side, 0x0203L, 2));
            Due.is("its first byte", 2, x.byteAt(side, 0));
            Due.is("its second byte", 3, x.byteAt(side, 1));
        }
    }

    /** "there is no such place": the first and the last one are places. */
    private static void setFirstAndLast() {
        for (int side = 0; side <= 1; side++) {
            DeltaCodec x = new DeltaCodec();
            x.fill(side, 1, 1);
            Due.is("set of the only byte", 1, x.set(side, 0, 0));
            Due.is("set of it again", 0, x.set(side, 0, 255));
            Due.is("it", 255, x.byteAt(side, 0));
            x.fill(side, 2, 149);
            Due.is("set of the byte 149", 2, x.set(side, 149, 0));
            Due.is("set of the byte 149 again", 0, x.set(side, 149, 3));
            Due.is("the byte 148", 2, x.byteAt(side, 148));
            Due.is("the byte 149", 3, x.byteAt(side, 149));
            Due.is("set changes no size", 150, x.size(side));
            Due.is("set of the same", 3, x.set(side, 149, 3));
        }
    }

    private static void turnEmptyAndFull() {
        DeltaCodec x = new DeltaCodec();
        Due.is("turn of nothing", 0, x.turn());
        x.fill(0, 1, 150);
        Due.is("turn of a full source", 150, x.turn());
        Due.is("the source afterwards", 0, x.size(0));
        Due.is("the target afterwards", 1, x.byteAt(1, 149));
        Due.is("turn of a full target", 0, x.turn());
        Due.is("the target is empty", 0, x.size(1));
        x.fill(1, 2, 150);
        Due.is("turn of two full ones", 150, x.turn());
        Due.is("the new source", 2, x.byteAt(0, 149));
        Due.is("the new target", 1, x.byteAt(1, 149));
        x.set(0, 0, 3);
        Due.is("they are not one string", 1, x.byteAt(1, 0));
    }

    /** "the target is empty afterwards" */
    private static void advanceEmptyAndFull() {
        DeltaCodec x = new DeltaCodec();
        Due.is("advance of nothing", 0, x.advance());
        x.fill(0, 1, 150);
        x.fill(1, 2, 150);
        Due.is("advance of a full target", 150, x.advance());
        Due.is("the source", 2, x.byteAt(0, 149));
        Due.is("the target", 0, x.size(1));
        Due.is("the target can be filled", 150, x.fill(1, 3, 150));
        Due.is("the source stays", 2, x.byteAt(0, 0));
        x.cut(1, 150);
        Due.is("advance of an empty target", 0, x.advance());
        Due.is("the source is empty, too", 0, x.size(0));
        x.fill(1, 4, 1);
        Due.is("advance of one byte", 1, x.advance());
        Due.is("turn back", 1, x.turn());
        Due.is("no former source comes back", 0, x.size(0));
    }

    /** "from the first place to the second one (this one not included)" */
    private static void checkOfParts() {
        String text = Due.climb(1, 150);
        DeltaCodec x = Due.codec(text, "");
        for (int place = 0; place <= 150; place += 10) {
            Due.is("check of nothing at " + place, 0, x.check(0, place, place));
        }
        Due.is("check of nothing in nothing", 0, x.check(1, 0, 0));
        Due.is("check of the first byte", 257, x.check(0, 0, 1));
        Due.is("check of the last byte", 257 * 150, x.check(0, 149, 150));
        for (int from = 0; from <= 150; from += 50) {
            for (int to = from; to <= 150; to += 25) {
                int a = 0;
                int b = 0;
                for (int i = from; i < to; i++) {
                    a += text.charAt(i);
                    b += a;
                }
                Due.is("check " + from + " " + to, 256 * (b % 251) + a % 251, x.check(0, from, to));
            }
        }
    }

    /** "both modulo 251": each of the two wraps around by itself. */
    private static void checkWrapsAround() {
        checkOf(250, 250, 250);
        checkOf(0, 0, 251);
        checkOf(1, 1, 252);
        checkOf(4, 4, 255);
        checkOf(0, 1, 1, 250);
        checkOf(0, 250, 250, 1);
        checkOf(125, 0, 126, 250);
        checkOf(0, 0, 0, 0, 0);
        checkOf(150 * 4 % 251, 4 * (150 * 151 / 2) % 251, "\u00ff".repeat(150).chars().toArray());
    }

    private static void checkOf(int a, int b, int... bytes) {
        DeltaCodec x = new DeltaCodec();
        for (int value : bytes) {
            x.fill(1, value, 1);
        }
        Due.is("check of " + bytes.length + " bytes", 256 * b + a, x.check(1, 0, bytes.length));
    }

    private static void matchOf(String source, String target, int place, int side, int n, int p) {
        DeltaCodec x = Due.codec(source, target);
        String what = "(" + place + ", " + side + ") of '" + source + "' to '" + target + "'";
        Due.is("match" + what, n, x.match(place, side));
        Due.is("matchPlace" + what, p, x.matchPlace(place, side));
    }

    /** "0 if there is none", "-1 if it tells 0", "the smallest p" */
    private static void matchInSource() {
        matchOf("", "a", 0, 0, 0, -1);
        matchOf("b", "a", 0, 0, 0, -1);
        matchOf("a", "a", 0, 0, 1, 0);
        matchOf("ba", "a", 0, 0, 1, 1);
        matchOf("aba", "a", 0, 0, 1, 0);
        matchOf("acab", "ab", 0, 0, 2, 2);
        matchOf("abxabyabc", "abc", 0, 0, 3, 6);
        matchOf("abcabc", "abc", 0, 0, 3, 0);
        matchOf("xabcabc", "abc", 0, 0, 3, 1);
        matchOf("a", "aaa", 0, 0, 1, 0);
        matchOf("aa", "aaa", 0, 0, 2, 0);
        matchOf("baa", "aaa", 0, 0, 2, 1);
        matchOf("\0", "\0", 0, 0, 1, 0);
        matchOf("a", "a\0", 0, 0, 1, 0);
        matchOf("a\0", "a", 0, 0, 1, 0);
        matchOf("\u00ff", "\u00ff", 0, 0, 1, 0);
    }

    private static void matchAtTheEnds() {
        String all = Due.climb(1, 150);
        matchOf(all, all, 0, 0, 150, 0);
        matchOf(all, all, 149, 0, 1, 149);
        matchOf(all, all, 1, 0, 149, 1);
        matchOf(all, all, 149, 1, 0, -1);
        matchOf(all, all.substring(149), 0, 0, 1, 149);
        matchOf(all.substring(149), all, 149, 0, 1, 0);
        matchOf(all.substring(149), all, 148, 0, 0, -1);
        matchOf(all.substring(1), all, 0, 0, 0, -1);
        matchOf(all.substring(0, 149), all, 0, 0, 149, 0);
        matchOf("", "a".repeat(149) + "b", 149, 1, 0, -1);
        matchOf("", "b" + "a".repeat(148) + "b", 149, 1, 1, 0);
        matchOf("", "a".repeat(148) + "bb", 149, 1, 1, 148);
    }

    /** "1 for places of the target ahead of this one"; what a REPEAT made itself is repeated, too. */
    private static void matchInTarget() {
        matchOf("aaa", "aaa", 0, 1, 0, -1);
        matchOf("", "a", 0, 1, 0, -1);
        matchOf("", "aa", 1, 1, 1, 0);
        matchOf("", "ab", 1, 1, 0, -1);
        matchOf("ab", "ab", 1, 1, 0, -1);
        matchOf("", "a".repeat(150), 1, 1, 149, 0);
        matchOf("", "a".repeat(150), 149, 1, 1, 0);
        matchOf("", "ab".repeat(75), 2, 1, 148, 0);
        matchOf("", "ab".repeat(75), 3, 1, 147, 1);
        matchOf("", "xab".repeat(50), 3, 1, 147, 0);
        matchOf("", "abcabd", 3, 1, 2, 0);
        matchOf("", "abab", 2, 1, 2, 0);
        matchOf("", "baab", 2, 1, 1, 1);
        matchOf("", "baaa", 2, 1, 2, 1);
        matchOf("", "aabaaab", 4, 1, 3, 0);
        matchOf("", "aabaab", 3, 1, 3, 0);
        matchOf("", "\0\0", 1, 1, 1, 0);
        matchOf("", "a\0", 1, 1, 0, -1);
    }

    private static void blocksOf(String source, String target, int size, int want) {
        DeltaCodec x = Due.codec(source, target);
        Due.is("blocks of " + size + " of '" + source + "' in '" + target + "'", want, x.blocks(size));
    }

    /** "a rest that is smaller is left out"; "it goes on behind it; otherwise with the next place" */
    private static void blocksAtTheEnds() {
        blocksOf("", "", 1, 0);
        blocksOf("", "", 50, 0);
        blocksOf("a", "", 1, 0);
        blocksOf("", "a", 1, 0);
        blocksOf("a", "a", 1, 1);
        blocksOf("a", "b", 1, 0);
        blocksOf("a", "a", 2, 0);
        blocksOf("aa", "a", 2, 0);
        blocksOf("a", "aa", 2, 0);
        blocksOf("aa", "aa", 2, 1);
        blocksOf("aa", "aaa", 2, 1);
        blocksOf("aa", "aaaa", 2, 2);
        blocksOf("abc", "ab", 2, 1);
        blocksOf("abc", "bcc", 2, 0);
        blocksOf("abcd", "cd", 2, 1);
        blocksOf("abcd", "bc", 2, 0);
        blocksOf("abcd", "xcd", 2, 1);
        blocksOf("abcd", "cdx", 2, 1);
        blocksOf("abcd", "acdb", 2, 1);
        blocksOf("aabaab", "aaabaab", 3, 2);
        blocksOf("ab", "aabab", 2, 2);
        blocksOf("a\0", "a", 2, 0);
        blocksOf("a", "a\0", 2, 0);
        blocksOf("\0", "\0\0", 1, 2);
    }

    /** "1 to 50" */
    private static void blocksOfAllSizes() {
        String all = Due.climb(1, 150);
        DeltaCodec same = Due.codec(all, all);
        DeltaCodec shifted = Due.codec(all, all.substring(1));
        DeltaCodec shorter = Due.codec(all.substring(0, 49), all);
        for (int size = 1; size <= 50; size++) {
            Due.is("blocks of " + size, 150 / size, same.blocks(size));
            Due.is("blocks of " + size + " without the first byte", 150 / size - 1,
                    shifted.blocks(size));
            Due.is("blocks of " + size + " of 49", 49 / size, shorter.blocks(size));
        }
        DeltaCodec x = new DeltaCodec();
        x.fill(0, 4, 50);
        x.fill(1, 4, 49);
        Due.is("a block of 50 in 49", 0, x.blocks(50));
        x.fill(1, 4, 1);
        Due.is("a block of 50 in 50", 1, x.blocks(50));
        x.cut(0, 1);
        Due.is("no block of 50 of 49", 0, x.blocks(50));
    }
}
