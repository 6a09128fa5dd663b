/** Promise 35: the digest. */
public final class DigestTest {
    public static void main(String[] args) {
        DeltaCodec x = new DeltaCodec();
        digestIs(x, 0, 0, 3, 0, 0);
        x.feed(0, 0x616263L, 3);
        digestIs(x, 3, 97, 98, 99, 0, 3, 0, 0);
        x.feed(1, 0x61626378L, 4);
        digestIs(x, 3, 97, 98, 99, 4, 97, 98, 99, 120, 3, 0, 0);
        x.setLeast(2);
        digestIs(x, 3, 97, 98, 99, 4, 97, 98, 99, 120, 2, 0, 0);
        x.plan();
        digestIs(x, 3, 97, 98, 99, 4, 97, 98, 99, 120, 2, 2, 1, 3, 0, 0, 1, 120, 0, 0);
        x.appendCode(255);
        digestIs(x, 3, 97, 98, 99, 4, 97, 98, 99, 120, 2, 2, 1, 3, 0, 0, 1, 120, 1, 255, 0);
        Due.code(x, 67, 0, 5, 6);
        x.decode();
        digestIs(x, 3, 97, 98, 99, 4, 97, 98, 99, 120, 2, 2, 1, 3, 0, 0, 1, 120, 4, 67, 0, 5, 6, 3);
        x.turn();
        digestIs(x, 4, 97, 98, 99, 120, 3, 97, 98, 99, 2, 4, 67, 0, 5, 6, 3);
        x.advance();
        digestIs(x, 3, 97, 98, 99, 0, 2, 4, 67, 0, 5, 6, 3);
        x.plan();
        digestIs(x, 3, 97, 98, 99, 0, 2, 0, 4, 67, 0, 5, 6, 3);
        Due.is("digest of a new object",
                ((((101L * 31) * 31) * 31 + 3) * 31) * 31, new DeltaCodec().digest());
        Due.end();
    }

    private static void digestIs(DeltaCodec x, int... numbers) {
        long d = 101;
        for (int number : numbers) {
            d = d * 31 + number;
        }
        Due.is("digest of " + numbers.length + " numbers", d, x.digest());
        Due.is("digest again", d, x.digest());
    }
}
