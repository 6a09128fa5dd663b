/** Promises 11 to 13: matches, their places, and blocks. */
public final class MatchTest {
    private static final int LOW = Integer.MIN_VALUE;
    private static final int HIGH = Integer.MAX_VALUE;

    public static void main(String[] args) {
        matchSource();
        matchTarget();
        matchErrors();
        blocks();
        Due.end();
    }

    private static void matchOf(DeltaCodec x, int place, int side, int want, int wantPlace) {
        String what = "(" + place + ", " + side + ") of " + Due.string(x, side);
        Due.is("match" + what, want, x.match(place, side));
        Due.is("matchPlace" + what, wantPlace, x.matchPlace(place, side));
    }

    private static void matchSource() {
        DeltaCodec x = Due.codec("xabyabcabc", "abcd");
        matchOf(x, 0, 0, 3, 4);
        matchOf(x, 1, 0, 2, 5);
        matchOf(x, 2, 0, 1, 6);
        matchOf(x, 3, 0, 0, -1);
        x = Due.codec("ababab", "ab");
        matchOf(x, 0, 0, 2, 0);
        matchOf(x, 1, 0, 1, 1);
        x = Due.codec("ab", "abab");
        matchOf(x, 0, 0, 2, 0);
        matchOf(x, 3, 0, 1, 1);
        x = Due.codec("", "abab");
        matchOf(x, 0, 0, 0, -1);
        x = Due.codec("xya", "a\0\0");
        matchOf(x, 0, 0, 1, 2);
        matchOf(x, 1, 0, 0, -1);
        x = Due.codec("a\0\0", "a");
        matchOf(x, 0, 0, 1, 0);
        x = new DeltaCodec();
        x.fill(0, 0, 150);
        x.fill(1, 0, 150);
        matchOf(x, 0, 0, 150, 0);
        matchOf(x, 149, 0, 1, 0);
    }

    private static void matchTarget() {
        DeltaCodec x = Due.codec("", "abcabcab");
        matchOf(x, 0, 1, 0, -1);
        matchOf(x, 1, 1, 0, -1);
        matchOf(x, 3, 1, 5, 0);
        matchOf(x, 5, 1, 3, 2);
        matchOf(x, 6, 1, 2, 0);
        matchOf(x, 7, 1, 1, 1);
        x = Due.codec("aaaaaaaa", "aaaaab");
        matchOf(x, 1, 1, 4, 0);
        matchOf(x, 3, 1, 2, 0);
        matchOf(x, 5, 1, 0, -1);
        x = Due.codec("", "abxabcabcabc");
        matchOf(x, 6, 1, 6, 3);
        x = Due.codec("", "abab");
        x.setLeast(20);
        matchOf(x, 2, 1, 2, 0);
    }

    private static void matchErrors() {
        DeltaCodec x = Due.codec("abcdef", "abc");
        x.plan();
        Due.refusesAll("match place", Due.INDEX, x, v -> x.match(v, 0), -1, 3, LOW, HIGH);
        Due.refusesAll("match side", Due.INDEX, x, v -> x.match(0, v), -1, 2, LOW, HIGH);
        Due.refusesAll("matchPlace place", Due.INDEX, x, v -> x.matchPlace(v, 1), -1, 3, LOW, HIGH);
        Due.refusesAll("matchPlace side", Due.INDEX, x, v -> x.matchPlace(0, v), -1, 2, LOW, HIGH);
        DeltaCodec empty = Due.codec("abc", "");
        Due.refuses("match in nothing", Due.INDEX, empty, () -> empty.match(0, 0));
        Due.refuses("matchPlace in nothing", Due.INDEX, empty, () -> empty.matchPlace(0, 0));
        x.match(0, 0);
        x.matchPlace(0, 1);
        x.blocks(2);
        Due.is("match and blocks keep the plan", 1, x.hasPlan() ? 1 : 0);
    }

    private static void blocks() {
        Due.is("blocks in order", 3, Due.codec("abcdefgh", "abxcdefy").blocks(2));
        Due.is("bytes across blocks are none", 0, Due.codec("abcd", "bcbc").blocks(2));
        Due.is("the rest is left out", 0, Due.codec("abcde", "eee").blocks(2));
        Due.is("a block of the whole source", 2, Due.codec("abc", "abcabc").blocks(3));
        Due.is("a block larger than the source", 0, Due.codec("abc", "abcabc").blocks(4));
        Due.is("it goes on behind a block", 2, Due.codec("aa", "aaaaa").blocks(2));
        Due.is("it goes on with the next place", 2, Due.codec("aabb", "aaabb").blocks(2));
        Due.is("the same block again", 4, Due.codec("ab", "abababab").blocks(2));
        Due.is("a block at the end", 1, Due.codec("ab", "xxxab").blocks(2));
        Due.is("half a block at the end", 0, Due.codec("ab", "xxxa").blocks(2));
        Due.is("blocks of one byte", 3, Due.codec("ab", "xaybza").blocks(1));
        Due.is("no zeros behind the target", 0, Due.codec("a\0", "a").blocks(2));
        Due.is("no zeros behind the source", 0, Due.codec("a", "a\0").blocks(2));
        Due.is("no source", 0, Due.codec("", "abc").blocks(1));
        Due.is("no target", 0, Due.codec("abc", "").blocks(1));
        DeltaCodec x = new DeltaCodec();
        x.fill(0, 5, 50);
        x.fill(1, 5, 150);
        Due.is("blocks of 50", 3, x.blocks(50));
        Due.refusesAll("blocks size", Due.ARGUMENT, x, x::blocks, 0, 51, -1, LOW, HIGH);
    }
}
