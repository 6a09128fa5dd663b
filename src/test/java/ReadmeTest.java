/** The example of README.md. */
public final class ReadmeTest {
    public static void main(String[] args) {
        DeltaCodec codec = new DeltaCodec();
        codec.feed(0, 0x616263646566L, 6);
        codec.feed(1, 0x7861626364656678L, 8);
        Due.is("plan", 3, codec.plan());
        Due.isText("the plan", "0:1:120@0 1:6:0@1 0:1:120@7", Due.plan(codec));
        Due.is("encode", 8, codec.encode());
        Due.is("code", 1, codec.code(0));
        Due.is("decode", 0, codec.decode());
        Due.is("differences", 0, codec.differences());
        codec.setCode(3, 1);
        Due.is("decode of the damaged code", 3, codec.decode());
        Due.is("errorPosition", 2, codec.errorPosition());
        Due.end();
    }
}
