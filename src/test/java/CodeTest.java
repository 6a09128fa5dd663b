/** Promises 24 to 29: codes. */
public final class CodeTest {
    private static final int LOW = Integer.MIN_VALUE;
    private static final int HIGH = Integer.MAX_VALUE;

    public static void main(String[] args) {
        encode();
        encodeLong();
        codeStays();
        change();
        Due.end();
    }

    private static String checkBytes(DeltaCodec x) {
        int check = x.check(1, 0, x.size(1));
        return " " + check % 256 + " " + check / 256;
    }

    private static void codeOf(String source, String target, String want) {
        DeltaCodec x = Due.codec(source, target);
        x.plan();
        int cost = x.cost();
        String what = " of '" + source + "' to '" + target + "'";
        Due.is("encode" + what, cost + 2, x.encode());
        Due.is("codeSize" + what, cost + 2, x.codeSize());
        Due.isText("code" + what, (want + checkBytes(x)).trim(), Due.code(x));
        Due.is("decode" + what, 0, x.decode());
        Due.is("differences" + what, 0, x.differences());
    }

    private static void encode() {
        codeOf("", "", "");
        codeOf("", "abc", "3 97 98 99");
        codeOf("abc", "abc", "67 0");
        codeOf("", "aaaa", "196 97");
        codeOf("abcdef", "xyabcdefzzzzyabcdef", "2 120 121 70 0 196 122 135 1");
        DeltaCodec x = Due.codec("", "abc");
        x.plan();
        x.encode();
        Due.isText("a stands ahead of b", "3 97 98 99 43 84", Due.code(x));
    }

    private static void encodeLong() {
        String all = Due.climb(1, 150);
        codeOf("", "z".repeat(62), "254 122");
        codeOf("", "z".repeat(63), "255 0 122");
        codeOf("", "z".repeat(150), "255 87 122");
        codeOf(all, all, "127 87 0");
        codeOf(all, all.substring(127, 131), "68 127");
        codeOf(all, all.substring(128, 132), "68 128 1");
        codeOf(all, all.substring(130, 134), "68 130 1");
        codeOf("", "ab".repeat(75), "2 97 98 191 85 0");
        DeltaCodec x = Due.codec("", all);
        x.plan();
        Due.is("the longest code", 154, x.encode());
        Due.is("its head", 63, x.code(0));
        Due.is("its n", 87, x.code(1));
        Due.is("its first byte", 1, x.code(2));
        Due.is("its last byte", 150, x.code(151));
    }

    private static void codeStays() {
        DeltaCodec x = Due.codec("abc", "abc");
        x.plan();
        x.encode();
        String code = Due.code(x);
        x.turn();
        x.advance();
        x.fill(1, 1, 9);
        x.setLeast(9);
        x.plan();
        Due.isText("the code stays", code, Due.code(x));
        Due.code(x, 1, 2, 3, 4, 5, 6, 7, 8, 9);
        Due.is("encode replaces a longer one", 4, x.encode());
        Due.isText("the new one", "201 1 9 45", Due.code(x));
        x.set(1, 0, 7);
        Due.refuses("encode without a plan", Due.STATE, x, x::encode);
        Due.isText("a refused encode leaves the code", "201 1 9 45", Due.code(x));
    }

    private static void change() {
        DeltaCodec x = new DeltaCodec();
        Due.refuses("code of nothing", Due.INDEX, x, () -> x.code(0));
        Due.refuses("setCode of nothing", Due.INDEX, x, () -> x.setCode(0, 1));
        Due.refuses("cutCode of nothing", Due.ARGUMENT, x, () -> x.cutCode(1));
        Due.is("cutCode of 0", 0, x.cutCode(0));
        Due.is("appendCode", 1, x.appendCode(0));
        Due.is("appendCode again", 2, x.appendCode(255));
        Due.is("code", 0, x.code(0));
        Due.is("the last code", 255, x.code(1));
        Due.is("setCode", 0, x.setCode(0, 255));
        Due.is("setCode again", 255, x.setCode(0, 17));
        Due.is("the code that was set", 17, x.code(0));
        Due.refusesAll("code", Due.INDEX, x, x::code, -1, 2, 400, LOW, HIGH);
        Due.refusesAll("setCode position", Due.INDEX, x, v -> x.setCode(v, 1), -1, 2, LOW, HIGH);
        Due.refusesAll("setCode value", Due.ARGUMENT, x, v -> x.setCode(0, v), -1, 256, LOW, HIGH);
        Due.refuses("setCode position before value", Due.INDEX, x, () -> x.setCode(2, 256));
        Due.refusesAll("cutCode", Due.ARGUMENT, x, x::cutCode, -1, 3, LOW, HIGH);
        Due.refusesAll("appendCode", Due.ARGUMENT, x, x::appendCode, -1, 256, LOW, HIGH);
        for (int size = 3; size <= 400; size++) {
            Due.is("appendCode to " + size, size, x.appendCode(size % 256));
        }
        Due.refuses("appendCode to 401", Due.STATE, x, () -> x.appendCode(1));
        Due.refuses("appendCode value before size", Due.ARGUMENT, x, () -> x.appendCode(256));
        Due.is("the byte 400", 400 % 256, x.code(399));
        Due.is("cutCode", 1, x.cutCode(399));
        Due.is("what is left", 17, x.code(0));
        Due.is("cutCode of the rest", 0, x.cutCode(1));
        Due.is("codeSize", 0, x.codeSize());
    }
}
