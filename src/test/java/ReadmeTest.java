/** The example of README.md. */
public final class ReadmeTest {
    public static void main(String[] args) {
        TermReader reader = new TermReader();
        Checks.due("feed", reader.feed(0x582B312A, 0x592E0000, 0, 0, 0), 20);
        Checks.due("end", reader.end(6), 6);
        Checks.due("read", reader.read(), 13);
        Checks.due("word", reader.word(0), 0x2B285F302C2A2831L);
        Checks.due("word", reader.word(8), 0x2C5F312929000000L);
        Told.read("+(_0,*(1,_1))", 5, 2, 2).due("read", reader);
        reader.feed(0x66286120, 0x62292E20, 0x20202020, 0x20202020, 0x20202020);
        Checks.due("broken", Checks.readTape(reader, "f(a b)."), Checks.BROKEN);
        Told.read("+(_0,*(1,_1))", 5, 2, 2).withPlace(4).due("broken", reader);
        Checks.finish();
    }
}
