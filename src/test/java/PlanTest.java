/** Promises 14 to 23: plans. An instruction is written kind:n:operand@start here. */
public final class PlanTest {
    private static final int LOW = Integer.MIN_VALUE;
    private static final int HIGH = Integer.MAX_VALUE;

    public static void main(String[] args) {
        setLeast();
        shortestCode();
        fewestInstructions();
        orderOfEqualPlans();
        longInstructions();
        keeping();
        answersWithoutPlan();
        answersOfPlan();
        Due.end();
    }

    private static void planOf(String source, String target, int least, int cost, String want) {
        DeltaCodec x = Due.codec(source, target);
        x.setLeast(least);
        String what = " of '" + source + "' to '" + target + "' with " + least;
        Due.isText("plan" + what, want, Due.plan(x));
        Due.is("cost" + what, cost, x.cost());
    }

    private static void setLeast() {
        DeltaCodec x = Due.codec("abc", "abc");
        Due.is("setLeast", 3, x.setLeast(1));
        Due.is("setLeast again", 1, x.setLeast(20));
        Due.is("setLeast of the same", 20, x.setLeast(20));
        x.plan();
        Due.refusesAll("setLeast", Due.ARGUMENT, x, x::setLeast, 0, 21, -1, LOW, HIGH);
        Due.is("a refused setLeast keeps the plan", 1, x.hasPlan() ? 1 : 0);
        Due.is("a refused setLeast sets nothing", 20, x.setLeast(20));
        Due.is("setLeast of the same drops the plan", 0, x.hasPlan() ? 1 : 0);
        planOf("abc", "abc", 3, 2, "1:3:0@0");
        planOf("abc", "abc", 4, 4, "0:3:97@0");
        planOf(Due.climb(1, 20), Due.climb(1, 20), 20, 2, "1:20:0@0");
        planOf(Due.climb(1, 19), Due.climb(1, 19), 20, 20, "0:19:1@0");
        planOf("", "abcdabcd", 4, 7, "0:4:97@0 2:4:0@4");
        planOf("", "abcdabcd", 5, 9, "0:8:97@0");
    }

    private static void shortestCode() {
        planOf("", "", 3, 0, "");
        planOf("abc", "", 3, 0, "");
        planOf("", "abc", 3, 4, "0:3:97@0");
        planOf("", "aaaa", 3, 2, "3:4:97@0");
        planOf("", "aa", 3, 2, "3:2:97@0");
        planOf("", "abababab", 3, 5, "0:2:97@0 2:6:0@2");
        planOf("abcdef", "xyabcdefzzzz", 3, 7, "0:2:120@0 1:6:0@2 3:4:122@8");
        planOf("abcdef", "abcdefabcdef", 3, 4, "1:6:0@0 1:6:0@6");
        planOf("", "xabcyabcz", 3, 10, "0:9:120@0");
        planOf("", "xabcdyabcd", 3, 9, "0:6:120@0 2:4:1@6");
        planOf("xabc", "abc\0\0\0", 3, 4, "1:3:1@0 3:3:0@3");
        planOf("xabc\0\0\0", "abc", 3, 2, "1:3:1@0");
    }

    private static void fewestInstructions() {
        planOf("", "aab", 3, 4, "0:3:97@0");
        planOf("", "aaab", 3, 4, "3:3:97@0 0:1:98@3");
        planOf("ab", "ab", 1, 2, "1:2:0@0");
        planOf("abxcd", "abcd", 1, 4, "1:2:0@0 1:2:3@2");
        planOf("", Due.climb(1, 63), 3, 65, "0:63:1@0");
        planOf("", Due.climb(1, 150), 3, 152, "0:150:1@0");
    }

    private static void orderOfEqualPlans() {
        planOf("a", "a", 1, 2, "0:1:97@0");
        planOf("aa", "aa", 2, 2, "1:2:0@0");
        planOf("aa", "aa", 3, 2, "3:2:97@0");
        planOf("abcxabc", "abc", 3, 2, "1:3:0@0");
        planOf("abcd#cdef", "abcdef", 2, 4, "1:4:0@0 1:2:7@4");
        planOf("abcd", "abcdabcd", 3, 4, "1:4:0@0 1:4:0@4");
        planOf("", "xaaaayaaaa", 3, 8, "0:1:120@0 3:4:97@1 0:1:121@5 2:4:1@6");
        planOf("", "abcdeabcdfabcd", 3, 12, "0:5:97@0 2:4:0@5 0:1:102@9 2:4:0@10");
        planOf("abcdef", "xyabcdefffff", 3, 7, "0:2:120@0 1:6:0@2 2:4:7@8");
    }

    private static void longInstructions() {
        planOf("", "z".repeat(62), 3, 2, "3:62:122@0");
        planOf("", "z".repeat(63), 3, 3, "3:63:122@0");
        planOf("", "z".repeat(150), 3, 3, "3:150:122@0");
        String all = Due.climb(1, 150);
        planOf(all, all, 3, 3, "1:150:0@0");
        planOf(all, all.substring(0, 62), 3, 2, "1:62:0@0");
        planOf(all, all.substring(0, 63), 3, 3, "1:63:0@0");
        planOf(all, all.substring(127, 131), 3, 2, "1:4:127@0");
        planOf(all, all.substring(128, 132), 3, 3, "1:4:128@0");
        planOf(all, all.substring(128, 131), 3, 3, "1:3:128@0");
        planOf(all, all.substring(128, 130), 2, 3, "0:2:129@0");
        planOf("", all.substring(0, 135) + all.substring(127, 131), 3, 139, "0:135:1@0 2:4:127@135");
        planOf("", all.substring(0, 135) + all.substring(128, 132), 3, 140, "0:135:1@0 2:4:128@135");
        planOf("", "ab".repeat(75), 3, 6, "0:2:97@0 2:148:0@2");
    }

    private static void keeping() {
        DeltaCodec x = Due.codec("abcd", "abcd");
        Due.is("no plan at first", 0, x.hasPlan() ? 1 : 0);
        Due.is("plan", 1, x.plan());
        Due.is("there is a plan", 1, x.hasPlan() ? 1 : 0);
        Due.is("plan again", 1, x.plan());
        x.encode();
        x.decode();
        x.setCode(0, 1);
        x.appendCode(1);
        x.cutCode(1);
        x.digest();
        x.differences();
        Due.is("codes leave the plan", 1, x.hasPlan() ? 1 : 0);
        x.fill(1, 'z', 4);
        Due.is("fill drops it", 0, x.hasPlan() ? 1 : 0);
        Due.is("a new plan", 2, x.plan());
        Due.isText("the new plan", "1:4:0@0 3:4:122@4", Due.plan(x));
        x.set(0, 3, 'q');
        Due.isText("the plan for another source", "1:3:0@0 0:1:100@3 3:4:122@4", Due.plan(x));
        DeltaCodec empty = new DeltaCodec();
        Due.is("plan of nothing", 0, empty.plan());
        Due.is("a plan of nothing is one", 1, empty.hasPlan() ? 1 : 0);
    }

    private static void answersWithoutPlan() {
        DeltaCodec x = Due.codec("abcd", "abcd");
        Due.refuses("cost", Due.STATE, x, x::cost);
        Due.refuses("kind", Due.STATE, x, () -> x.kind(0));
        Due.refuses("length", Due.STATE, x, () -> x.length(0));
        Due.refuses("operand", Due.STATE, x, () -> x.operand(0));
        Due.refuses("start", Due.STATE, x, () -> x.start(0));
        Due.refuses("made", Due.STATE, x, () -> x.made(0));
        Due.refuses("ratio", Due.STATE, x, () -> (long) x.ratio());
        Due.refuses("encode", Due.STATE, x, x::encode);
        Due.refuses("kind of none", Due.STATE, x, () -> x.kind(-1));
        Due.refuses("length of none", Due.STATE, x, () -> x.length(-1));
        Due.refuses("operand of none", Due.STATE, x, () -> x.operand(7));
        Due.refuses("start of none", Due.STATE, x, () -> x.start(7));
        Due.refuses("made of none", Due.STATE, x, () -> x.made(4));
        x.plan();
        x.cut(0, 0);
        Due.refuses("cost of a former plan", Due.STATE, x, x::cost);
        Due.refuses("kind of a former plan", Due.STATE, x, () -> x.kind(0));
    }

    private static void answersOfPlan() {
        DeltaCodec x = Due.codec("abcdef", "xyabcdefzzzzyabcdef");
        Due.isText("plan", "0:2:120@0 1:6:0@2 3:4:122@8 2:7:1@12", Due.plan(x));
        Due.is("cost", 9, x.cost());
        Due.is("made by ADD", 2, x.made(0));
        Due.is("made by COPY", 6, x.made(1));
        Due.is("made by REPEAT", 7, x.made(2));
        Due.is("made by RUN", 4, x.made(3));
        Due.isDouble("ratio", 11.0 / 19.0, x.ratio());
        Due.refusesAll("kind", Due.INDEX, x, x::kind, -1, 4, LOW, HIGH);
        Due.refusesAll("length", Due.INDEX, x, x::length, -1, 4, LOW, HIGH);
        Due.refusesAll("operand", Due.INDEX, x, x::operand, -1, 4, LOW, HIGH);
        Due.refusesAll("start", Due.INDEX, x, x::start, -1, 4, LOW, HIGH);
        Due.refusesAll("made", Due.INDEX, x, x::made, -1, 4, LOW, HIGH);
        x.cut(1, 19);
        x.plan();
        Due.isDouble("ratio of nothing", 0.0, x.ratio());
        Due.is("made of nothing", 0, x.made(1));
        Due.is("cost of nothing", 0, x.cost());
        Due.refuses("no instruction of nothing", Due.INDEX, x, () -> x.kind(0));
        x.fill(1, 255, 1);
        x.plan();
        Due.isDouble("ratio of one byte", 4.0, x.ratio());
        Due.is("operand 255", 255, x.operand(0));
    }
}
