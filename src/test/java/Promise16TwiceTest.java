/** Promise 16: twice. */
public final class Promise16TwiceTest {
    public static void main(String[] args) {
        countsStreetsOfTheSameName();
        countsOneAreaAtATime();
        countsAnotherStreetOnly();
        countsAliases();
        countsEachStreetOnce();
        comparesEveryLetter();
        leavesOutEmptyNames();
        leavesOutLandmarks();
        countsAllThirty();
        isZeroWithoutStreets();
        Check.end();
    }

    private static AddressWords withNames(String... names) {
        AddressWords x = new AddressWords();
        for (String name : names) {
            Check.namedStreet(x, 1, name);
        }
        return x;
    }

    private static void countsStreetsOfTheSameName() {
        Check.sentence("Promise 16", "How many streets have a name that another street of the same area has.");
        Check.answers("one street", 0, () -> withNames("high").twice());
        Check.answers("two names", 0, () -> withNames("high", "low").twice());
        Check.answers("one name", 2, () -> withNames("high", "high").twice());
        Check.answers("three of one name", 3, () -> withNames("high", "high", "high").twice());
        Check.answers("two of three", 2, () -> withNames("high", "low", "high").twice());
        Check.answers("two pairs", 4, () -> withNames("high", "low", "high", "low").twice());
        AddressWords x = withNames("high", "high");
        x.close(0, true);
        Check.answers("a closed one too", 2, () -> x.twice());
        Check.answers("asked again", 2, () -> x.twice());
        Check.name(x, 1, "er");
        Check.answers("another name now", 0, () -> x.twice());
    }

    private static void countsOneAreaAtATime() {
        Check.sentence("Promise 16", "of the same area");
        AddressWords x = new AddressWords();
        for (int area = 0; area < 10; area++) {
            Check.namedStreet(x, area, "high");
        }
        Check.answers("each of another area", 0, () -> x.twice());
        Check.namedStreet(x, 9, "high");
        Check.answers("two of area 9", 2, () -> x.twice());
        Check.namedStreet(x, 0, "high");
        Check.answers("two of area 0 as well", 4, () -> x.twice());
    }

    private static void countsAnotherStreetOnly() {
        Check.sentence("Promise 16", "another street");
        AddressWords x = withNames("high", "low");
        Check.alias(x, 0, "high");
        Check.alias(x, 0, "high");
        Check.answers("one name three times on one street", 0, () -> x.twice());
    }

    private static void countsAliases() {
        Check.sentence("Promise 16", "have a name that another street");
        AddressWords x = withNames("first", "second");
        Check.alias(x, 0, "third");
        Check.alias(x, 1, "first");
        Check.answers("an alias and a first name", 2, () -> x.twice());
        AddressWords aliases = withNames("first", "second");
        Check.alias(aliases, 0, "third");
        Check.alias(aliases, 0, "same");
        Check.alias(aliases, 1, "fourth");
        Check.answers("other aliases", 0, () -> aliases.twice());
        Check.alias(aliases, 1, "same");
        Check.answers("the third names", 2, () -> aliases.twice());
    }

    private static void countsEachStreetOnce() {
        Check.sentence("Promise 16", "How many streets");
        AddressWords x = withNames("first", "first");
        Check.alias(x, 0, "second");
        Check.alias(x, 1, "second");
        Check.alias(x, 0, "third");
        Check.alias(x, 1, "third");
        Check.answers("three names of two streets", 2, () -> x.twice());
        Check.namedStreet(x, 1, "third");
        Check.answers("and of a third street", 3, () -> x.twice());
    }

    private static void comparesEveryLetter() {
        Check.sentence("Promise 16", "a name that another street of the same area has");
        String name = "abcdefghijklmnop";
        for (int i = 0; i < 16; i++) {
            String other = name.substring(0, i) + "x" + name.substring(i + 1);
            Check.answers("another letter " + i, 0, () -> withNames(name, other).twice());
            String start = name.substring(0, i);
            Check.answers("the first " + i + " letters", 0, () -> withNames(name, start).twice());
        }
        Check.answers("all 16 letters", 2, () -> withNames(name, name).twice());
    }

    /** Names have 1 to 16 letters: one that is empty yet is none. */
    private static void leavesOutEmptyNames() {
        Check.sentence("Promise 16", "have a name");
        AddressWords x = withNames("", "", "high", "low");
        Check.answers("empty first names", 0, () -> x.twice());
        x.alias(2);
        x.alias(3);
        Check.answers("empty aliases", 0, () -> x.twice());
    }

    private static void leavesOutLandmarks() {
        Check.sentence("Promise 16", "How many streets");
        AddressWords x = withNames("mill", "high");
        Check.landmark(x, 1, 1, "mill");
        Check.landmark(x, 0, 1, "high");
        Check.answers("landmarks of these names", 0, () -> x.twice());
    }

    private static void countsAllThirty() {
        Check.sentence("Promise 16", "How many streets");
        AddressWords x = Check.withStreets(30);
        Check.sign(x, 0, "a");
        Check.sign(x, 29, "a");
        Check.answers("the first and the last", 2, () -> x.twice());
        for (int i = 1; i < 29; i++) {
            Check.sign(x, i, "a");
        }
        Check.answers("all", 30, () -> x.twice());
    }

    private static void isZeroWithoutStreets() {
        Check.sentence("Promise 16", "How many streets");
        Check.answers("a new object", 0, () -> new AddressWords().twice());
    }
}
