import java.util.function.Consumer;

/**
 * Promises 14 to 23, the sentences that name a boundary: the least size of a copy, lengths about 63,
 * places about 128, empty and full strings, each of the rules for equal plans, and each call that
 * ends a plan or leaves it. An instruction is written kind:n:operand@start here.
 */
public final class PlanBoundsTest {
    public static void main(String[] args) {
        leastFrom1To20();
        leastBindsCopies();
        leastBindsNothingElse();
        repeatBeginsAhead();
        emptyAndSmallTargets();
        fullStrings();
        lengthsAbout63();
        placesAbout128();
        shortestFirst();
        fewestNext();
        smallerKindNext();
        greaterLengthNext();
        smallerPlaceLast();
        firstDifferenceDecides();
        callsThatEndAPlan();
        refusedCallsThatDoNot();
        callsThatLeaveIt();
        planAgain();
        formerMatchesAreForgotten();
        answersAtTheEnds();
        Due.end();
    }

    private static DeltaCodec planOf(String source, String target, int least, int cost, String want) {
        DeltaCodec x = Due.codec(source, target);
        x.setLeast(least);
        String what = " of '" + source + "' to '" + target + "' with " + least;
        Due.isText("plan" + what, want, Due.plan(x));
        Due.is("cost" + what, cost, x.cost());
        return x;
    }

    /** "a setting from 1 to 20 (3 at first)" */
    private static void leastFrom1To20() {
        DeltaCodec x = new DeltaCodec();
        int before = 3;
        for (int least = 1; least <= 20; least++) {
            Due.is("setLeast of " + least, before, x.setLeast(least));
            before = least;
        }
        Due.is("setLeast of 20 again", 20, x.setLeast(20));
        Due.is("setLeast from 20 to 1", 20, x.setLeast(1));
        Due.is("setLeast of 1 again", 1, x.setLeast(1));
        DeltaCodec first = Due.codec("abc", "abc");
        Due.isText("a copy of 3 at first", "1:3:0@0", Due.plan(first));
        DeltaCodec less = Due.codec("ab", "ab");
        Due.isText("no copy of 2 at first", "0:2:97@0", Due.plan(less));
    }

    /** "n of a COPY or a REPEAT is at least the least size of a copy" */
    private static void leastBindsCopies() {
        for (int least = 2; least <= 20; least++) {
            String just = Due.climb(1, least);
            planOf(just, just, least, 2, "1:" + least + ":0@0");
            String less = Due.climb(1, least - 1);
            planOf(less, less, least, least, "0:" + (least - 1) + ":1@0");
        }
        for (int least = 3; least <= 20; least++) {
            String just = Due.climb(1, least);
            planOf("", just + just, least, least + 3, "0:" + least + ":1@0 2:" + least + ":0@" + least);
            String less = Due.climb(1, least - 1);
            planOf("", less + less, least, 2 * least - 1, "0:" + (2 * least - 2) + ":1@0");
        }
        // A copy may not be made longer by what it would not make.
        planOf("abcdef", "abcdeg", 6, 7, "0:6:97@0");
        planOf("abcdef", "abcdeg", 5, 4, "1:5:0@0 0:1:103@5");
        planOf("abcdef", "abcdeg", 4, 4, "1:5:0@0 0:1:103@5");
    }

    /** The least size is of copies alone: an ADD and a RUN have an n of at least 1. */
    private static void leastBindsNothingElse() {
        planOf("", "a", 20, 2, "0:1:97@0");
        planOf("a", "a", 20, 2, "0:1:97@0");
        planOf("", "aa", 20, 2, "3:2:97@0");
        planOf("aa", "aa", 20, 2, "3:2:97@0");
        planOf("", "aaaaaaaaaaaaaaaaaaa", 20, 2, "3:19:97@0");
        planOf("", "aaaaab", 20, 4, "3:5:97@0 0:1:98@5");
        planOf("a", "a", 1, 2, "0:1:97@0");
        planOf("", "aa", 1, 2, "3:2:97@0");
    }

    /** "p is less than the size of what was made so far": nothing repeats from its own place on. */
    private static void repeatBeginsAhead() {
        planOf("abcd", "aaabcd", 2, 4, "3:3:97@0 1:3:1@3");
        planOf("abcd", "aaaabcd", 3, 4, "3:4:97@0 1:3:1@4");
        planOf("", "aaaa", 1, 2, "3:4:97@0");
        planOf("", "xaaaa", 1, 4, "0:1:120@0 3:4:97@1");
        planOf("", "xxaaaa", 1, 4, "3:2:120@0 3:4:97@2");
        // Behind the first byte it is told, it can: from the last place of what was made.
        planOf("", "abababab", 3, 5, "0:2:97@0 2:6:0@2");
        planOf("abcd", "abcddddd", 3, 4, "1:4:0@0 2:4:3@4");
    }

    /** "0 if the target is empty" */
    private static void emptyAndSmallTargets() {
        for (String source : new String[] {"", "a", Due.climb(1, 150)}) {
            DeltaCodec x = Due.codec(source, "");
            Due.is("plan of an empty target", 0, x.plan());
            Due.is("there is one", 1, x.hasPlan() ? 1 : 0);
            Due.is("its cost", 0, x.cost());
            Due.isDouble("its ratio", 0.0, x.ratio());
            for (int kind = 0; kind <= 3; kind++) {
                Due.is("made by " + kind, 0, x.made(kind));
            }
            Due.is("plan again", 0, x.plan());
        }
        DeltaCodec x = planOf("", "\0", 3, 2, "0:1:0@0");
        Due.isDouble("ratio of one byte", 4.0, x.ratio());
        planOf("", "\u00ff", 3, 2, "0:1:255@0");
        planOf("", "\0\0", 3, 2, "3:2:0@0");
        planOf("", "\u00ff\u00ff", 3, 2, "3:2:255@0");
        planOf("", "ab", 3, 3, "0:2:97@0");
    }

    private static void fullStrings() {
        String all = Due.climb(1, 150);
        DeltaCodec x = planOf("", all, 3, 152, "0:150:1@0");
        Due.isDouble("the greatest ratio of 150", 154.0 / 150.0, x.ratio());
        Due.is("made by ADD", 150, x.made(0));
        x = planOf(all, all, 20, 3, "1:150:0@0");
        Due.isDouble("ratio of a copy", 5.0 / 150.0, x.ratio());
        Due.is("made by COPY", 150, x.made(1));
        x = planOf(all, "z".repeat(150), 3, 3, "3:150:122@0");
        Due.is("made by RUN", 150, x.made(3));
        x = planOf("", "ab".repeat(75), 3, 6, "0:2:97@0 2:148:0@2");
        Due.is("made by REPEAT", 148, x.made(2));
        planOf("a".repeat(150), "a".repeat(150), 3, 3, "1:150:0@0");
        planOf("a".repeat(149), "a".repeat(150), 3, 3, "3:150:97@0");
        planOf(all, all.substring(1) + all.substring(0, 1), 3, 5, "1:149:1@0 0:1:1@149");
        planOf(all, all.substring(149) + all.substring(0, 149), 3, 5, "0:1:150@0 1:149:0@1");
    }

    /** "64 * its kind + n, if n is less than 63; otherwise 64 * its kind + 63, and n - 63 follows" */
    private static void lengthsAbout63() {
        String all = Due.climb(1, 150);
        for (int n : new int[] {61, 62, 63, 64, 125, 126, 127}) {
            int more = n < 63 ? 0 : 1;
            String part = all.substring(0, n);
            planOf("", part, 3, 1 + more + n, "0:" + n + ":1@0");
            planOf(all, part, 3, 2 + more, "1:" + n + ":0@0");
            planOf("", "z".repeat(n), 3, 2 + more, "3:" + n + ":122@0");
            // For 63, an ADD of 3 and a REPEAT of 62 are as short, and the first n is greater.
            String repeat = n == 63 ? "0:3:97@0 2:62:1@3" : "0:2:97@0 2:" + n + ":0@2";
            planOf("", "ab" + "ab".repeat(n).substring(0, n), 3, 5 + more, repeat);
        }
        // One ADD of 63 has the size of an ADD of 62 and one of 1: the fewest are taken.
        planOf("", Due.climb(1, 63), 20, 65, "0:63:1@0");
        // An ADD of 62 in front of a RUN: a byte less than an ADD of 64.
        planOf("", Due.climb(1, 62) + "zz", 20, 65, "0:62:1@0 3:2:122@62");
        planOf("", Due.climb(1, 61) + "zz", 20, 64, "0:61:1@0 3:2:122@61");
        planOf("", Due.climb(1, 60) + "zz", 20, 63, "0:62:1@0");
        planOf("", Due.climb(1, 63) + "zz", 20, 67, "0:65:1@0");
    }

    /** "A number below 128 is written as one byte; one of 128 or more as two bytes" */
    private static void placesAbout128() {
        String all = Due.climb(1, 150);
        planOf(all, all.substring(126, 129), 3, 2, "1:3:126@0");
        planOf(all, all.substring(127, 130), 3, 2, "1:3:127@0");
        planOf(all, all.substring(128, 131), 3, 3, "1:3:128@0");
        planOf(all, all.substring(127, 129), 2, 2, "1:2:127@0");
        planOf(all, all.substring(128, 130), 2, 3, "0:2:129@0");
        planOf(all, all.substring(127, 128), 1, 2, "0:1:128@0");
        planOf(all, all.substring(147, 150), 3, 3, "1:3:147@0");
        // The byte that a smaller place saves is weighed as well.
        String twice = all.substring(0, 100) + "wxyz" + all.substring(104, 146) + "wxyz";
        planOf(twice, "wxyz", 3, 2, "1:4:100@0");
        String seen = Due.climb(1, 140);
        planOf("", seen + seen.substring(127, 130), 3, 144, "0:140:1@0 2:3:127@140");
        planOf("", seen + seen.substring(128, 131), 3, 145, "0:143:1@0");
        planOf("", seen + seen.substring(128, 132), 3, 145, "0:140:1@0 2:4:128@140");
    }

    /** "The plan that is made is the one whose code is shortest": also if it has more instructions. */
    private static void shortestFirst() {
        planOf("", "abzzz", 3, 5, "0:2:97@0 3:3:122@2");
        planOf("", "zzzab", 3, 5, "3:3:122@0 0:2:97@3");
        planOf("abc", "abcxabc", 3, 6, "1:3:0@0 0:1:120@3 1:3:0@4");
        planOf("", "aabb", 3, 4, "3:2:97@0 3:2:98@2");
        planOf("", "aaabbb", 3, 4, "3:3:97@0 3:3:98@3");
        planOf("", "aaaabbbbccccdddd", 3, 8, "3:4:97@0 3:4:98@4 3:4:99@8 3:4:100@12");
    }

    /** "of several, the one with the fewest instructions" */
    private static void fewestNext() {
        planOf("", "aab", 3, 4, "0:3:97@0");
        planOf("", "baa", 3, 4, "0:3:98@0");
        planOf("", "baab", 3, 5, "0:4:98@0");
        planOf("ab", "abc", 2, 4, "0:3:97@0");
        planOf("bc", "abc", 2, 4, "0:3:97@0");
        planOf("abc", "xabcy", 3, 6, "0:5:120@0");
        planOf("", "xaaayaaa", 3, 8, "0:5:120@0 2:3:1@5");
        planOf("aaaa", "aaaaaaaa", 3, 2, "3:8:97@0");
        // The three that an ADD begins are as short; the number of them is looked at ahead of kinds.
        String dots = ".".repeat(124);
        String source = "bcd#ef" + dots + "abc" + ".".repeat(7) + "def" + ".".repeat(7);
        planOf(source, "abcdef", 2, 6, "1:3:130@0 1:3:140@3");
    }

    /** "the one with the smaller kind there" */
    private static void smallerKindNext() {
        planOf("a", "a", 1, 2, "0:1:97@0");
        planOf("aaa", "aaa", 3, 2, "1:3:0@0");
        planOf("zaaa", "aaa", 3, 2, "1:3:1@0");
        planOf("aaa", "aaa", 4, 2, "3:3:97@0");
        planOf("abcd", "abcdabcd", 3, 4, "1:4:0@0 1:4:0@4");
        planOf("", "xaaaayaaaa", 3, 8, "0:1:120@0 3:4:97@1 0:1:121@5 2:4:1@6");
        planOf("aaaa", "xaaaayaaaa", 3, 8, "0:1:120@0 1:4:0@1 0:1:121@5 1:4:0@6");
        planOf("aaaa", "xaaaayaaaa", 5, 8, "0:1:120@0 3:4:97@1 0:1:121@5 3:4:97@6");
        planOf("ab", "ab", 2, 2, "1:2:0@0");
        // Kinds are looked at ahead of lengths.
        planOf("abc#bcd", "abcd", 1, 4, "0:1:97@0 1:3:4@1");
    }

    /** "then the one with the greater n" */
    private static void greaterLengthNext() {
        planOf("abcd#cdef", "abcdef", 2, 4, "1:4:0@0 1:2:7@4");
        planOf("cdef#abcd", "abcdef", 2, 4, "1:4:5@0 1:2:2@4");
        planOf("abcd#abc#defg", "abcdefg", 3, 4, "1:4:0@0 1:3:10@4");
        planOf("abc#abcd#defg", "abcdefg", 3, 4, "1:4:4@0 1:3:10@4");
    }

    /** "then the one with the smaller p" */
    private static void smallerPlaceLast() {
        planOf("abcabc", "abc", 3, 2, "1:3:0@0");
        planOf("xabcabc", "abc", 3, 2, "1:3:1@0");
        planOf("aaaa", "aaa", 3, 2, "1:3:0@0");
        planOf("", "abcdxabcdyabcd", 3, 12, "0:5:97@0 2:4:0@5 0:1:121@9 2:4:0@10");
        planOf("", "\1\2\3\4\5\1\2\3\4\6\2\3\4\5", 4, 12, "0:5:1@0 2:4:0@5 0:1:6@9 2:4:1@10");
    }

    /** "at the first instruction in which they are different" */
    private static void firstDifferenceDecides() {
        // A greater n of the first one counts more than a smaller kind of the second one.
        planOf("abcdef#fgggg", "abcdefgggg", 5, 4, "1:6:0@0 3:4:103@6");
        planOf("fgggg#abcdef", "abcdefgggg", 5, 4, "1:6:6@0 3:4:103@6");
        planOf("abcd#bcd", "abcdd", 2, 4, "1:4:0@0 0:1:100@4");
        planOf("", "aaabaaab", 3, 6, "3:3:97@0 0:1:98@3 2:4:0@4");
        planOf("aaab", "aaabaaab", 3, 4, "1:4:0@0 1:4:0@4");
        planOf("aaab", "aaabaaaba", 3, 4, "1:4:0@0 2:5:0@4");
    }

    private static DeltaCodec planned() {
        DeltaCodec x = Due.codec("abcd", "xabcdy");
        x.plan();
        x.encode();
        x.decode();
        return x;
    }

    private static void ends(String what, Consumer<DeltaCodec> call) {
        DeltaCodec x = planned();
        String code = Due.code(x);
        call.accept(x);
        Due.is(what + " ends the plan", 0, x.hasPlan() ? 1 : 0);
        Due.isText(what + " leaves the code", code, Due.code(x));
        Due.isText(what + " leaves the output", "xabcdy", Due.output(x));
        Due.refuses(what + ": cost", Due.STATE, x, x::cost);
        Due.refuses(what + ": encode", Due.STATE, x, x::encode);
    }

    private static void endsEmpty(String what, Consumer<DeltaCodec> call) {
        DeltaCodec x = new DeltaCodec();
        x.plan();
        call.accept(x);
        Due.is(what + " ends a plan of nothing", 0, x.hasPlan() ? 1 : 0);
    }

    private static void leaves(String what, Consumer<DeltaCodec> call) {
        DeltaCodec x = planned();
        String plan = Due.plan(x);
        call.accept(x);
        Due.is(what + " leaves the plan", 1, x.hasPlan() ? 1 : 0);
        Due.isText(what + " leaves it as it was", plan, Due.plan(x));
    }

    private static void leavesRefused(String what, String want, Consumer<DeltaCodec> call) {
        leaves(what, x -> Due.isText(what, "throws " + want, Due.answer(() -> {
            call.accept(x);
            return 0;
        })));
    }

    /** "until the next call of ... that throws no exception (also if it changes nothing)" */
    private static void callsThatEndAPlan() {
        for (int side = 0; side <= 1; side++) {
            int s = side;
            ends("feed", x -> x.feed(s, 1, 1));
            ends("fill", x -> x.fill(s, 1, 1));
            ends("cut", x -> x.cut(s, 1));
            ends("cut of 0", x -> x.cut(s, 0));
            ends("set", x -> x.set(s, 0, 1));
            ends("set of the same", x -> x.set(s, 0, x.byteAt(s, 0)));
            endsEmpty("cut of 0", x -> x.cut(s, 0));
        }
        ends("setLeast", x -> x.setLeast(4));
        ends("setLeast of the same", x -> x.setLeast(3));
        ends("turn", x -> x.turn());
        ends("two turns", x -> {
            x.turn();
            x.turn();
        });
        ends("advance", x -> x.advance());
        endsEmpty("setLeast of the same", x -> x.setLeast(3));
        endsEmpty("turn", x -> x.turn());
        endsEmpty("advance", x -> x.advance());
        DeltaCodec same = Due.codec("abcd", "abcd");
        same.plan();
        same.turn();
        Due.is("turn of equal strings ends the plan", 0, same.hasPlan() ? 1 : 0);
    }

    private static void refusedCallsThatDoNot() {
        leavesRefused("feed: side", Due.INDEX, x -> x.feed(2, 1, 1));
        leavesRefused("feed: many", Due.ARGUMENT, x -> x.feed(1, 1, 0));
        leavesRefused("fill: side", Due.INDEX, x -> x.fill(-1, 1, 1));
        leavesRefused("fill: value", Due.ARGUMENT, x -> x.fill(1, 256, 1));
        leavesRefused("fill: many", Due.ARGUMENT, x -> x.fill(1, 1, 151));
        leavesRefused("fill: 150", Due.STATE, x -> x.fill(1, 1, 150));
        leavesRefused("cut: side", Due.INDEX, x -> x.cut(2, 0));
        leavesRefused("cut: negative", Due.ARGUMENT, x -> x.cut(1, -1));
        leavesRefused("cut: too many", Due.ARGUMENT, x -> x.cut(1, 7));
        leavesRefused("set: side", Due.INDEX, x -> x.set(2, 0, 1));
        leavesRefused("set: place", Due.INDEX, x -> x.set(1, 6, 1));
        leavesRefused("set: value", Due.ARGUMENT, x -> x.set(1, 0, -1));
        leavesRefused("setLeast: too small", Due.ARGUMENT, x -> x.setLeast(0));
        leavesRefused("setLeast: too large", Due.ARGUMENT, x -> x.setLeast(21));
        DeltaCodec full = Due.codec("", Due.climb(1, 150));
        full.plan();
        Due.refuses("feed: 150", Due.STATE, full, () -> full.feed(1, 1, 1));
        Due.is("feed: 150 leaves the plan", 1, full.hasPlan() ? 1 : 0);
    }

    private static void callsThatLeaveIt() {
        leaves("size", x -> x.size(0));
        leaves("byteAt", x -> x.byteAt(1, 0));
        leaves("check", x -> x.check(1, 0, 6));
        leaves("match", x -> x.match(0, 0));
        leaves("matchPlace", x -> x.matchPlace(5, 1));
        leaves("blocks", x -> x.blocks(1));
        leaves("plan", x -> x.plan());
        leaves("cost", x -> x.cost());
        leaves("kind", x -> x.kind(0));
        leaves("length", x -> x.length(0));
        leaves("operand", x -> x.operand(0));
        leaves("start", x -> x.start(0));
        leaves("made", x -> x.made(0));
        leaves("ratio", x -> x.ratio());
        leaves("encode", x -> x.encode());
        leaves("codeSize", x -> x.codeSize());
        leaves("code", x -> x.code(0));
        leaves("setCode", x -> x.setCode(0, 9));
        leaves("cutCode", x -> x.cutCode(x.codeSize()));
        leaves("appendCode", x -> x.appendCode(9));
        leaves("decode", x -> x.decode());
        leaves("a decode with an error", x -> {
            x.cutCode(3);
            x.decode();
        });
        leaves("errorPosition", x -> x.errorPosition());
        leaves("outputSize", x -> x.outputSize());
        leaves("output", x -> x.output(0));
        leaves("differences", x -> x.differences());
        leaves("digest", x -> x.digest());
    }

    /** "Makes the plan, if there is none." A former plan leaves nothing behind. */
    private static void planAgain() {
        DeltaCodec x = Due.codec("", "aabbccddeeff");
        Due.isText("six", "3:2:97@0 3:2:98@2 3:2:99@4 3:2:100@6 3:2:101@8 3:2:102@10", Due.plan(x));
        x.cut(1, 12);
        Due.isText("none", "", Due.plan(x));
        Due.is("cost of none", 0, x.cost());
        x.fill(1, 0, 1);
        Due.isText("one", "0:1:0@0", Due.plan(x));
        x.turn();
        Due.isText("none of a turned one", "", Due.plan(x));
        x.turn();
        Due.isText("one again", "0:1:0@0", Due.plan(x));
        x.advance();
        Due.append(x, 1, "\0\0\0");
        x.setLeast(1);
        Due.isText("for the new source", "3:3:0@0", Due.plan(x));
        x.fill(0, 0, 2);
        Due.isText("for a longer source", "1:3:0@0", Due.plan(x));
        x.setLeast(4);
        Due.isText("for another least size", "3:3:0@0", Due.plan(x));
    }

    /** A plan of the same object that had longer matches, at the ends of the new target. */
    private static void formerMatchesAreForgotten() {
        DeltaCodec x = Due.codec("wxab", "ab");
        x.setLeast(2);
        Due.isText("ab", "1:2:2@0", Due.plan(x));
        x.cut(1, 2);
        Due.append(x, 1, "wx");
        Due.isText("wx, behind ab", "1:2:0@0", Due.plan(x));
        Due.is("its cost", 2, x.cost());
        for (int run : new int[] {7, 10, 62, 63, 150}) {
            DeltaCodec y = Due.codec("", "a".repeat(run));
            Due.isText("a run of " + run, "3:" + run + ":97@0", Due.plan(y));
            y.cut(1, run);
            Due.append(y, 1, "abcabc");
            Due.isText("abcabc, behind a run of " + run, "0:3:97@0 2:3:0@3", Due.plan(y));
            Due.is("its cost, behind a run of " + run, 6, y.cost());
        }
        DeltaCodec z = Due.codec(Due.climb(1, 150), Due.climb(1, 150));
        Due.isText("all of 150", "1:150:0@0", Due.plan(z));
        z.cut(1, 75);
        Due.isText("half of it", "1:75:0@0", Due.plan(z));
        z.cut(0, 76);
        Due.isText("a shorter source", "1:74:0@0 0:1:75@74", Due.plan(z));
        z.advance();
        z.cut(0, 75);
        Due.append(z, 1, Due.climb(1, 75));
        Due.isText("no source", "0:75:1@0", Due.plan(z));
    }

    /** The first and the last instruction, and each kind. */
    private static void answersAtTheEnds() {
        DeltaCodec x = Due.codec("abcdef", "xyabcdefzzzzyabcdef");
        x.plan();
        Due.is("kind of the first", 0, x.kind(0));
        Due.is("kind of the last", 2, x.kind(3));
        Due.is("length of the first", 2, x.length(0));
        Due.is("length of the last", 7, x.length(3));
        Due.is("operand of an ADD: its first byte", 120, x.operand(0));
        Due.is("operand of a COPY: its p", 0, x.operand(1));
        Due.is("operand of a RUN: its byte", 122, x.operand(2));
        Due.is("operand of a REPEAT: its p", 1, x.operand(3));
        Due.is("start of the first", 0, x.start(0));
        Due.is("start of the last", 12, x.start(3));
        Due.is("made by all kinds", x.size(1), x.made(0) + x.made(1) + x.made(2) + x.made(3));
        // The most instructions: 150 bytes in runs of two.
        StringBuilder pairs = new StringBuilder();
        for (int i = 0; i < 75; i++) {
            pairs.append((char) i).append((char) i);
        }
        DeltaCodec many = Due.codec("", pairs.toString());
        Due.is("75 runs", 75, many.plan());
        Due.is("their cost", 150, many.cost());
        Due.is("kind of the last run", 3, many.kind(74));
        Due.is("length of the last run", 2, many.length(74));
        Due.is("operand of the last run", 74, many.operand(74));
        Due.is("start of the last run", 148, many.start(74));
        Due.is("made by the runs", 150, many.made(3));
        Due.isDouble("their ratio", 152.0 / 150.0, many.ratio());
    }
}
