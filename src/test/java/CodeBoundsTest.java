/**
 * Promises 24 to 29 and the description of codes, the sentences that name a boundary: a number of
 * 127 and of 128, an n of 62 and of 63, codes of 0, 2 and 400 bytes.
 */
public final class CodeBoundsTest {
    public static void main(String[] args) {
        encodeNothing();
        headsOfAllKinds();
        lengthsAbout63();
        placesAbout128();
        checkBytes();
        encodeReplaces();
        codesStay();
        positions();
        cutFromNothingToAll();
        appendUpTo400();
        Due.end();
    }

    private static DeltaCodec encoded(String source, String target, int least) {
        DeltaCodec x = Due.codec(source, target);
        x.setLeast(least);
        x.plan();
        int cost = x.cost();
        Due.is("encode to '" + target + "'", cost + 2, x.encode());
        Due.is("codeSize to '" + target + "'", cost + 2, x.codeSize());
        Due.is("decode to '" + target + "'", 0, x.decode());
        Due.isText("output of '" + target + "'", target, Due.output(x));
        return x;
    }

    /** The first bytes of a code. */
    private static void begins(DeltaCodec x, int... bytes) {
        for (int i = 0; i < bytes.length; i++) {
            Due.is("byte " + i + " of a code of " + x.codeSize(), bytes[i], x.code(i));
        }
    }

    private static void encodeNothing() {
        DeltaCodec x = encoded("", "", 3);
        Due.isText("the code of nothing", "0 0", Due.code(x));
        x = encoded(Due.climb(1, 150), "", 3);
        Due.isText("the code of nothing of a full source", "0 0", Due.code(x));
    }

    /** "64 * its kind + n" */
    private static void headsOfAllKinds() {
        Due.isText("ADD of 1", "1 97 97 97", Due.code(encoded("", "a", 3)));
        Due.isText("ADD of a byte of 0", "1 0 0 0", Due.code(encoded("", "\0", 3)));
        Due.isText("ADD of a byte of 255", "1 255 4 4", Due.code(encoded("", "\u00ff", 3)));
        Due.isText("RUN of 2", "194 0 0 0", Due.code(encoded("", "\0\0", 3)));
        Due.isText("RUN of 2 of 255", "194 255 8 12", Due.code(encoded("", "\u00ff\u00ff", 3)));
        Due.isText("COPY of 2", "66 0 195 41", Due.code(encoded("ab", "ab", 2)));
        begins(encoded("", "ababab", 2), 2, 97, 98, 132, 0);
        begins(encoded("", "abcabc", 3), 3, 97, 98, 99, 131, 0);
    }

    /** "if n is less than 63; otherwise it is 64 * its kind + 63, and the number n - 63 follows" */
    private static void lengthsAbout63() {
        String all = Due.climb(1, 150);
        begins(encoded("", all.substring(0, 62), 3), 62, 1, 2);
        begins(encoded("", all.substring(0, 63), 3), 63, 0, 1, 2);
        begins(encoded("", all.substring(0, 64), 3), 63, 1, 1, 2);
        begins(encoded("", all, 3), 63, 87, 1, 2);
        begins(encoded(all, all.substring(5, 67), 3), 126, 5);
        begins(encoded(all, all.substring(5, 68), 3), 127, 0, 5);
        begins(encoded(all, all.substring(5, 69), 3), 127, 1, 5);
        begins(encoded(all, all, 3), 127, 87, 0);
        begins(encoded("", "ab".repeat(32), 3), 2, 97, 98, 190, 0);
        begins(encoded("", "ab".repeat(33), 3), 2, 97, 98, 191, 1, 0);
        begins(encoded("abc", "abc".repeat(21) + "ab", 3), 67, 0, 190, 0);
        begins(encoded("abc", "abc".repeat(22), 3), 67, 0, 191, 0, 0);
        begins(encoded("abc", "abc".repeat(22) + "a", 3), 67, 0, 191, 1, 0);
        begins(encoded("", "ab".repeat(75), 3), 2, 97, 98, 191, 85, 0);
        begins(encoded("", "z".repeat(62), 3), 254, 122);
        begins(encoded("", "z".repeat(63), 3), 255, 0, 122);
        begins(encoded("", "z".repeat(64), 3), 255, 1, 122);
        begins(encoded("", "z".repeat(150), 3), 255, 87, 122);
        Due.is("the longest code", 154, encoded("", all, 3).codeSize());
    }

    /** "128 + its remainder by 128, then its quotient by 128" */
    private static void placesAbout128() {
        String all = Due.climb(1, 150);
        begins(encoded(all, all.substring(126, 130), 3), 68, 126);
        begins(encoded(all, all.substring(127, 131), 3), 68, 127);
        begins(encoded(all, all.substring(128, 132), 3), 68, 128, 1);
        begins(encoded(all, all.substring(129, 133), 3), 68, 129, 1);
        begins(encoded(all, all.substring(146, 150), 3), 68, 146, 1);
        DeltaCodec x = encoded("", all.substring(0, 140) + all.substring(127, 131), 3);
        Due.is("head of a REPEAT from 127", 132, x.code(142));
        Due.is("its place", 127, x.code(143));
        x = encoded("", all.substring(0, 140) + all.substring(128, 132), 3);
        Due.is("head of a REPEAT from 128", 132, x.code(142));
        Due.is("its remainder", 128, x.code(143));
        Due.is("its quotient", 1, x.code(144));
    }

    /** "two check bytes, a and b, of all bytes that it makes" */
    private static void checkBytes() {
        for (String target : new String[] {"\u00fa", "\u00fb", "\u00fc", "\1\u00fa", "\u00fa\1"}) {
            DeltaCodec x = encoded("", target, 3);
            int check = x.check(1, 0, target.length());
            Due.is("a of " + (int) target.charAt(0), check % 256, x.code(x.codeSize() - 2));
            Due.is("b of " + (int) target.charAt(0), check / 256, x.code(x.codeSize() - 1));
        }
        Due.isText("251 counts as 0", "1 251 0 0", Due.code(encoded("", "\u00fb", 3)));
        Due.isText("a wraps around", "2 1 250 0 1", Due.code(encoded("", "\1\u00fa", 3)));
        Due.isText("b wraps around", "2 126 250 125 0", Due.code(encoded("", "~\u00fa", 3)));
        // The bytes of the target are checked, not those of the code.
        Due.isText("check of a COPY", "67 0 43 84", Due.code(encoded("abc", "abc", 3)));
    }

    /** "it replaces the code": a longer, a shorter, a full and an empty one. */
    private static void encodeReplaces() {
        DeltaCodec x = Due.codec("", "abc");
        x.plan();
        for (int size = 1; size <= 400; size++) {
            x.appendCode(255);
        }
        Due.is("encode in place of 400", 6, x.encode());
        Due.isText("all that is left", "3 97 98 99 43 84", Due.code(x));
        Due.is("encode again", 6, x.encode());
        Due.isText("the same again", "3 97 98 99 43 84", Due.code(x));
        x.cutCode(6);
        Due.is("encode in place of nothing", 6, x.encode());
        x.setCode(0, 0);
        Due.is("encode in place of a damaged one", 6, x.encode());
        Due.isText("it is mended", "3 97 98 99 43 84", Due.code(x));
        x.cut(1, 3);
        x.plan();
        Due.is("encode of nothing", 2, x.encode());
        Due.isText("the code of nothing", "0 0", Due.code(x));
    }

    /** "Codes are kept apart from plans, and stay." */
    private static void codesStay() {
        DeltaCodec x = Due.codec("", "abc");
        x.plan();
        x.encode();
        x.feed(0, 1, 1);
        x.fill(1, 1, 1);
        x.cut(1, 2);
        x.set(1, 0, 1);
        x.setLeast(1);
        x.turn();
        x.advance();
        x.plan();
        x.decode();
        Due.isText("the code stays", "3 97 98 99 43 84", Due.code(x));
        Due.is("a plan writes no code", 6, x.codeSize());
    }

    /** "there is no such position": the first and the last one are positions. */
    private static void positions() {
        DeltaCodec x = new DeltaCodec();
        x.appendCode(7);
        Due.is("the only byte", 7, x.code(0));
        Due.is("setCode of it", 7, x.setCode(0, 0));
        Due.is("setCode of 255", 0, x.setCode(0, 255));
        Due.is("it", 255, x.code(0));
        for (int size = 2; size <= 400; size++) {
            x.appendCode(size % 251);
        }
        Due.is("setCode of the last of 400", 149, x.setCode(399, 3));
        Due.is("the last of 400", 3, x.code(399));
        Due.is("the one ahead", 148, x.code(398));
        Due.is("the first of 400", 255, x.code(0));
        Due.is("setCode changes no size", 400, x.codeSize());
    }

    /** "if many is negative, or greater than its size": 0 and its size are neither. */
    private static void cutFromNothingToAll() {
        DeltaCodec x = new DeltaCodec();
        Due.is("cutCode of 0 from nothing", 0, x.cutCode(0));
        Due.code(x, 5, 6, 7);
        Due.is("cutCode of 0", 3, x.cutCode(0));
        Due.is("cutCode of 2", 1, x.cutCode(2));
        Due.is("what is left", 5, x.code(0));
        Due.is("cutCode of all", 0, x.cutCode(1));
        Due.is("append behind it", 1, x.appendCode(9));
        Due.is("no cut byte comes back", 9, x.code(0));
    }

    /** "IllegalStateException if it has 400 bytes": with 399 it is appended. */
    private static void appendUpTo400() {
        DeltaCodec x = new DeltaCodec();
        for (int size = 1; size <= 400; size++) {
            Due.is("appendCode to " + size, size, x.appendCode(size % 256));
        }
        Due.refuses("appendCode to 401", Due.STATE, x, () -> x.appendCode(0));
        Due.is("codeSize of a full one", 400, x.codeSize());
        Due.is("its last byte", 400 % 256, x.code(399));
        Due.is("cutCode of 1", 399, x.cutCode(1));
        Due.is("appendCode to 400 again", 400, x.appendCode(255));
        Due.is("cutCode of 400", 0, x.cutCode(400));
        Due.is("appendCode to 1", 1, x.appendCode(0));
    }
}
