/** Promise 1: a new object has read nothing. */
public final class NewObjectTest {
    public static void main(String[] args) {
        TermReader reader = new TermReader();
        for (int what = 0; what <= 2; what++) {
            Checks.due("about(" + what + ")", reader.about(what), 0);
        }
        Checks.due("count(0)", reader.count(0), 0);
        Checks.due("count(1)", reader.count(1), 0);
        Checks.due("count(2)", reader.count(2), -1);
        Checks.due("word(0) throws", WordTest.thrown(reader, 0), 1);
        Checks.due("end(0)", reader.end(0), 0);
        objectsAreApart();
        Checks.finish();
    }

    private static void objectsAreApart() {
        TermReader one = new TermReader();
        TermReader other = new TermReader();
        Checks.read(one, "f(X).");
        Checks.feed(one, "abc");
        Checks.read(other, "g(a,b).");
        Checks.due("the first", Checks.result(one), "f(_0)");
        Checks.due("the other", Checks.result(other), "g(a,b)");
        Checks.due("tape of the first", one.count(0), 3);
        Checks.due("tape of the other", other.count(0), 0);
        Checks.due("variables of the first", one.about(1), 1);
        Checks.due("variables of the other", other.about(1), 0);
    }
}
