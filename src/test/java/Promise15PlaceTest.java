import java.util.function.Consumer;

/** Promise 15: place. */
public final class Promise15PlaceTest {
    public static void main(String[] args) {
        tellsOfALandmark();
        tellsOfAStreet();
        tellsNoHouseSaid();
        tellsOfTheLatestFind();
        hasNoneBefore();
        hasNoneBehindChanges();
        keepsThemBehindOtherCalls();
        keepsThemBehindRefusedCalls();
        refusesOtherPlaces();
        refusesOtherWhats();
        wantsThePlaceBeforeWhat();
        Check.end();
    }

    private static final String LANDMARK = "1 77 3 0 9 0";
    private static final String STREET = "0 5 0 1 2 -1";
    private static final String OTHER_STREET = "1 5 1 8 9 -1";

    /** Two streets, a landmark, and a find of all three: the landmark is the nearest. */
    private static AddressWords found() {
        AddressWords x = new AddressWords();
        Check.namedStreet(x, 2, "mile");
        Check.namedStreet(x, 9, "qqqqqqqq");
        x.range(0, 1, 5, 9);
        Check.landmark(x, 1, 77, "mill");
        Check.say(x, "mill 5");
        x.find(10);
        return x;
    }

    private static void what(AddressWords x, int i, int... due) {
        for (int what = 0; what < 6; what++) {
            int asked = what;
            Check.answers("place(" + i + ", " + what + ")", due[what], () -> x.place(i, asked));
        }
    }

    private static void tellsOfALandmark() {
        Check.sentence("Promise 15", "5 its landmark");
        what(found(), 0, 1, 77, 3, 0, 9, 0);
    }

    private static void tellsOfAStreet() {
        Check.sentence("Promise 15",
                "what 0 its street, 1 its house (0 none said), 2 its reason, 3 its distance, 4 its area");
        what(found(), 1, 0, 5, 0, 1, 2, -1);
        what(found(), 2, 1, 5, 1, 8, 9, -1);
        Check.sentence("Promise 15", "(-1 none)");
        AddressWords x = found();
        Check.answers("a street's landmark", -1, () -> x.place(1, 5));
        Check.answers("another street's landmark", -1, () -> x.place(2, 5));
    }

    private static void tellsNoHouseSaid() {
        Check.sentence("Promise 15", "1 its house (0 none said)");
        AddressWords x = found();
        Check.say(x, "mile");
        x.find(10);
        Check.answers("a street's house", 0, () -> x.place(0, 1));
        Check.answers("a landmark's house is its own", 77, () -> x.place(1, 1));
        Check.nearest(x, "mile 0", 1, 0);
        Check.nearest(x, "mile 0000", 1, 0);
    }

    private static void tellsOfTheLatestFind() {
        Check.sentence("Promise 15", "Of place i of the latest find");
        AddressWords x = found();
        Check.same("told", LANDMARK, Check.place(x, 0));
        Check.same("told again", LANDMARK, Check.place(x, 0));
        x.find(1);
        Check.same("a smaller find", LANDMARK, Check.place(x, 0));
        Check.refuses("its second place", Check.ARGUMENT, () -> x.place(1, 0));
        Check.say(x, "qqqqqqqq 6");
        x.find(2);
        Check.same("other words", "1 6 1 0 9 -1", Check.place(x, 0));
        Check.same("the second of these", "0 5 1 8 2 -1", Check.place(x, 1));
    }

    private static void hasNoneBefore() {
        Check.sentence("Promise 15", "none before");
        AddressWords x = Check.withStreets(3);
        Check.refuses("before words", Check.ARGUMENT, () -> x.place(0, 0));
        Check.say(x, "a");
        Check.refuses("before a find", Check.ARGUMENT, () -> x.place(0, 0));
        Check.outcome(() -> x.find(0));
        Check.refuses("behind a refused find", Check.ARGUMENT, () -> x.place(0, 0));
        x.find(3);
        Check.answers("behind a find", 2, () -> x.place(2, 0));
    }

    private static void forgets(String call, Consumer<AddressWords> change) {
        AddressWords x = found();
        change.accept(x);
        for (int i = 0; i < 3; i++) {
            int asked = i;
            Check.refuses("place " + i + " behind " + call, Check.ARGUMENT, () -> x.place(asked, 0));
        }
    }

    private static void hasNoneBehindChanges() {
        Check.sentence("Promise 15", "behind what changes streets, landmarks or words");
        forgets("street", x -> x.street(0));
        forgets("sign", x -> x.sign(0, 'a', 1));
        forgets("alias", x -> x.alias(0));
        forgets("range", x -> x.range(0, 0, 1, 9));
        forgets("line", x -> x.line(0, 1, 1, 2, 2));
        forgets("close", x -> x.close(0, true));
        forgets("landmark", x -> x.landmark(0, 1, 'a', 1));
        forgets("word", x -> x.word('a', 1));
        forgets("word with n 0", x -> x.word(0, 0));
        forgets("a blank", x -> x.word(' ', 1));
        forgets("what concerns another street", x -> x.close(1, true));
    }

    private static void keeps(String call, String due, Consumer<AddressWords> other) {
        AddressWords x = found();
        Check.same(call, due, Check.outcome(() -> other.accept(x)));
        Check.same("place 0 behind " + call, LANDMARK, Check.place(x, 0));
        Check.same("place 1 behind " + call, STREET, Check.place(x, 1));
        Check.same("place 2 behind " + call, OTHER_STREET, Check.place(x, 2));
    }

    private static void keepsBehind(String call, Consumer<AddressWords> other) {
        keeps(call, "done", other);
    }

    private static void keepsRefused(String call, Class<?> refusal, Consumer<AddressWords> refused) {
        keeps(call, refusal.getName(), refused);
    }

    /** A corner is none of the three. */
    private static void keepsThemBehindOtherCalls() {
        Check.sentence("Promise 15", "streets, landmarks or words");
        keepsBehind("meet", x -> x.meet(0, 1, 0, 0));
        keepsBehind("corner", x -> x.corner(0, 1));
        keepsBehind("post", x -> x.post(0, 0));
        keepsBehind("near", x -> x.near(0, 0));
        keepsBehind("place", x -> x.place(1, 3));
        keepsBehind("twice", x -> x.twice());
    }

    private static void keepsThemBehindRefusedCalls() {
        Check.sentence("Promise 15", "Refusals");
        keepsRefused("an area 10", Check.INDEX, x -> x.street(10));
        keepsRefused("a sign of no street", Check.ARGUMENT, x -> x.sign(2, 'a', 1));
        keepsRefused("a sign that is no letter", Check.INDEX, x -> x.sign(0, 'A', 1));
        keepsRefused("an alias of no street", Check.ARGUMENT, x -> x.alias(2));
        keepsRefused("a range of no street", Check.ARGUMENT, x -> x.range(2, 0, 1, 2));
        keepsRefused("a range without house", Check.INDEX, x -> x.range(0, 0, 1, 1));
        keepsRefused("a line of no street", Check.ARGUMENT, x -> x.line(2, 0, 0, 0, 0));
        keepsRefused("a line off the map", Check.INDEX, x -> x.line(0, 0, 0, 0, 10000));
        keepsRefused("closing no street", Check.ARGUMENT, x -> x.close(2, true));
        keepsRefused("a landmark on no street", Check.ARGUMENT, x -> Check.landmark(x, 2, 1, "a"));
        keepsRefused("a landmark at house 0", Check.INDEX, x -> Check.landmark(x, 0, 0, "a"));
        keepsRefused("a landmark's name again", Check.STATE, x -> Check.landmark(x, 0, 1, "mill"));
        keepsRefused("a street that meets itself", Check.STATE, x -> x.meet(0, 0, 0, 0));
        keepsRefused("near off the map", Check.INDEX, x -> x.near(10000, 0));
        keepsRefused("a word that is none", Check.INDEX, x -> x.word('A', 1));
        keepsRefused("a word with n 9", Check.INDEX, x -> x.word('a', 9));
        keepsRefused("a find of 0", Check.INDEX, x -> x.find(0));
        keepsRefused("a place 3", Check.ARGUMENT, x -> x.place(3, 0));
        keepsThemWithoutRoom();
    }

    /** A street with three names, six ranges and all room for signs used up. */
    private static void keepsThemWithoutRoom() {
        AddressWords x = Check.withStreets(30);
        Check.name(x, 0, "aaaaaaaaaaaaaaaa");
        Check.alias(x, 0, "b");
        Check.alias(x, 0, "cccccccccccccccc");
        for (int i = 0; i < 6; i++) {
            x.range(0, 2, 1, 9);
        }
        for (int i = 0; i < 20; i++) {
            x.landmark(0, 1, Check.pack("zzzzzzz" + (char) ('a' + i)), 8);
        }
        Check.say(x, "b 5" + " ".repeat(37));
        x.find(1);
        Check.refuses("a street more", Check.ROOM, () -> x.street(0));
        Check.refuses("a letter more", Check.ROOM, () -> x.sign(0, 'a', 1));
        Check.refuses("a name more", Check.ROOM, () -> x.alias(0));
        Check.refuses("a range more", Check.ROOM, () -> x.range(0, 2, 1, 9));
        Check.refuses("a landmark more", Check.ROOM, () -> x.landmark(0, 1, 'b', 1));
        Check.refuses("a sign more", Check.ROOM, () -> x.word('b', 1));
        Check.refuses("a name behind an empty one", Check.STATE, () -> x.alias(1));
        Check.same("the place stays", "0 5 0 0 0 -1", Check.place(x, 0));
    }

    private static void refusesOtherPlaces() {
        Check.sentence("Promise 15", "IllegalArgumentException: there is no such place");
        AddressWords x = found();
        for (int i : Check.outside(0, 2)) {
            Check.refuses("place " + i, Check.ARGUMENT, () -> x.place(i, 0));
        }
        AddressWords ten = Check.withStreets(30);
        Check.say(ten, "a");
        ten.find(10);
        Check.answers("place 9 of 10", 9, () -> ten.place(9, 0));
        for (int i : Check.outside(0, 9)) {
            Check.refuses("place " + i + " of 10", Check.ARGUMENT, () -> ten.place(i, 0));
        }
    }

    private static void refusesOtherWhats() {
        Check.sentence("Promise 15", "IndexOutOfBoundsException: no such what");
        AddressWords x = found();
        for (int what : Check.outside(0, 5)) {
            for (int i = 0; i < 3; i++) {
                int asked = i;
                Check.refuses("what " + what + " of " + i, Check.INDEX, () -> x.place(asked, what));
            }
        }
    }

    private static void wantsThePlaceBeforeWhat() {
        Check.sentence("Promise 15", "the first of these that is so");
        AddressWords x = found();
        Check.refuses("place 3", Check.ARGUMENT, () -> x.place(3, 6));
        Check.refuses("place -1", Check.ARGUMENT, () -> x.place(-1, -1));
        AddressWords bare = new AddressWords();
        Check.refuses("without a find", Check.ARGUMENT, () -> bare.place(0, 6));
    }
}
