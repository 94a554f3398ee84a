/**
 * The order of refusals. Each promise begins with all of its refusals so at once; what is refused is
 * then put right, one after the other, and the next refusal is due.
 */
public final class TermsRefusalsTest {
    private static final String WORDS = "unknown numbers IllegalArgumentException, outside of a range "
            + "IndexOutOfBoundsException, not in this state IllegalStateException, no room "
            + "UnsupportedOperationException; the first of these that is so.";

    public static void main(String[] args) {
        street();
        sign();
        alias();
        range();
        line();
        close();
        landmark();
        meet();
        corner();
        post();
        near();
        word();
        find();
        place();
        Check.end();
    }

    private static void promise(int number) {
        Check.sentence("Terms, promise " + number, WORDS);
    }

    private static void street() {
        promise(2);
        AddressWords x = Check.withStreets(30);
        Check.refuses("outside", Check.INDEX, () -> x.street(10));
        Check.refuses("no room", Check.ROOM, () -> x.street(9));
    }

    private static void sign() {
        promise(3);
        AddressWords x = Check.withStreets(1);
        Check.name(x, 0, "abcdefghijklmnop");
        Check.refuses("unknown", Check.ARGUMENT, () -> x.sign(1, 'A', 9));
        Check.refuses("outside", Check.INDEX, () -> x.sign(0, 'A', 9));
        Check.refuses("outside by its byte", Check.INDEX, () -> x.sign(0, 'A', 1));
        Check.refuses("no room", Check.ROOM, () -> x.sign(0, 'a', 1));
    }

    private static void alias() {
        promise(4);
        AddressWords x = Check.withStreets(1);
        Check.name(x, 0, "a");
        Check.alias(x, 0, "b");
        x.alias(0);
        Check.refuses("unknown", Check.ARGUMENT, () -> x.alias(1));
        Check.refuses("not in this state", Check.STATE, () -> x.alias(0));
        x.sign(0, 'c', 1);
        Check.refuses("no room", Check.ROOM, () -> x.alias(0));
    }

    private static void range() {
        promise(5);
        AddressWords x = Check.withStreets(1);
        for (int i = 0; i < 6; i++) {
            x.range(0, 2, 1, 9);
        }
        Check.refuses("unknown", Check.ARGUMENT, () -> x.range(1, 3, 10000, 0));
        Check.refuses("outside", Check.INDEX, () -> x.range(0, 3, 10000, 0));
        Check.refuses("outside by its numbers", Check.INDEX, () -> x.range(0, 1, 10000, 0));
        Check.refuses("outside without house", Check.INDEX, () -> x.range(0, 1, 2, 2));
        Check.refuses("no room", Check.ROOM, () -> x.range(0, 1, 1, 1));
    }

    private static void line() {
        promise(6);
        AddressWords x = Check.withStreets(1);
        Check.refuses("unknown", Check.ARGUMENT, () -> x.line(1, 10000, 10000, 10000, 10000));
        Check.refuses("outside", Check.INDEX, () -> x.line(0, 10000, 10000, 10000, 10000));
        Check.answers("none", 0, () -> x.line(0, 9999, 9999, 9999, 9999));
    }

    private static void close() {
        promise(7);
        AddressWords x = Check.withStreets(1);
        Check.refuses("unknown", Check.ARGUMENT, () -> x.close(1, true));
        Check.accepts("none", () -> x.close(0, true));
    }

    private static void landmark() {
        promise(8);
        AddressWords x = Check.withStreets(1);
        for (char letter = 'a'; letter < 'a' + 20; letter++) {
            x.landmark(0, 1, letter, 1);
        }
        Check.refuses("unknown", Check.ARGUMENT, () -> x.landmark(1, 0, 'A', 9));
        Check.refuses("unknown with a name that one has", Check.ARGUMENT, () -> x.landmark(1, 0, 'a', 1));
        Check.refuses("outside", Check.INDEX, () -> x.landmark(0, 0, 'a', 1));
        Check.refuses("outside by n", Check.INDEX, () -> x.landmark(0, 1, 'a', 9));
        Check.refuses("outside by its byte", Check.INDEX, () -> x.landmark(0, 1, 'A', 1));
        Check.refuses("not in this state", Check.STATE, () -> x.landmark(0, 1, 'a', 1));
        Check.refuses("no room", Check.ROOM, () -> x.landmark(0, 1, 'z', 1));
    }

    private static void meet() {
        promise(9);
        AddressWords x = Check.withStreets(30);
        for (int i = 1; i <= 20; i++) {
            x.meet(0, i, 0, 0);
            x.meet(i, i + 1, 0, 0);
        }
        Check.refuses("unknown", Check.ARGUMENT, () -> x.meet(30, 30, -1, 1));
        Check.refuses("unknown by the other", Check.ARGUMENT, () -> x.meet(0, 30, -1, 1));
        Check.refuses("outside", Check.INDEX, () -> x.meet(0, 0, -1, 1));
        Check.refuses("outside by other metres", Check.INDEX, () -> x.meet(0, 1, 0, 1));
        Check.refuses("not in this state: one", Check.STATE, () -> x.meet(29, 29, 0, 0));
        Check.refuses("not in this state: meeting", Check.STATE, () -> x.meet(1, 0, 0, 0));
        Check.refuses("no room", Check.ROOM, () -> x.meet(0, 29, 0, 0));
    }

    private static void corner() {
        promise(10);
        AddressWords x = Check.withStreets(2);
        Check.refuses("unknown", Check.ARGUMENT, () -> x.corner(2, 2));
        Check.refuses("unknown by the other", Check.ARGUMENT, () -> x.corner(1, 2));
        Check.answers("none", -1, () -> x.corner(1, 0));
    }

    private static void post() {
        promise(11);
        AddressWords x = Check.withStreets(1);
        Check.refuses("unknown", Check.ARGUMENT, () -> x.post(1, 1));
        Check.refuses("outside", Check.INDEX, () -> x.post(0, 1));
        Check.answers("none", Check.point(0, 0), () -> x.post(0, 0));
    }

    private static void near() {
        promise(12);
        AddressWords x = new AddressWords();
        Check.refuses("outside", Check.INDEX, () -> x.near(10000, -10000));
        Check.refuses("outside by y", Check.INDEX, () -> x.near(9999, -10000));
        Check.answers("none", -1, () -> x.near(9999, -9999));
    }

    private static void word() {
        promise(13);
        AddressWords x = new AddressWords();
        Check.say(x, "a".repeat(40));
        Check.refuses("outside", Check.INDEX, () -> x.word('A', 9));
        Check.refuses("outside by its byte", Check.INDEX, () -> x.word('A', 1));
        Check.refuses("no room", Check.ROOM, () -> x.word('a', 1));
        Check.answers("none", 0, () -> x.word('A', 0));
    }

    private static void find() {
        promise(14);
        AddressWords x = new AddressWords();
        Check.refuses("outside", Check.INDEX, () -> x.find(11));
        Check.refuses("not in this state", Check.STATE, () -> x.find(10));
        x.word(' ', 1);
        Check.refuses("outside with words", Check.INDEX, () -> x.find(0));
        Check.answers("none", 0, () -> x.find(1));
    }

    private static void place() {
        promise(15);
        AddressWords x = Check.withStreets(1);
        Check.say(x, "a");
        Check.refuses("unknown before a find", Check.ARGUMENT, () -> x.place(0, 6));
        x.find(1);
        Check.refuses("unknown", Check.ARGUMENT, () -> x.place(1, 6));
        Check.refuses("outside", Check.INDEX, () -> x.place(0, 6));
        Check.answers("none", -1, () -> x.place(0, 5));
    }
}
