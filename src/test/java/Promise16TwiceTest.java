public final class Promise16TwiceTest {
    public static void main(String[] args) {
        AddressWords x = new AddressWords();
        x.street(1);
        x.street(1);
        Check.answers("empty names are none", 0, () -> x.twice());
        Check.name(x, 0, "high");
        Check.answers("one named", 0, () -> x.twice());
        Check.name(x, 1, "high");
        Check.answers("both named so", 2, () -> x.twice());
        Check.namedStreet(x, 2, "high");
        Check.answers("another area", 2, () -> x.twice());
        Check.namedStreet(x, 1, "high");
        Check.answers("three of them", 3, () -> x.twice());
        Check.name(x, 3, "er");
        Check.answers("a longer name is another one", 2, () -> x.twice());
        x.alias(2);
        x.alias(3);
        Check.answers("empty aliases are none", 2, () -> x.twice());
        Check.name(x, 2, "high");
        Check.answers("twice on one street is no other street", 2, () -> x.twice());
        Check.name(x, 3, "low");
        Check.namedStreet(x, 1, "old");
        x.alias(4);
        Check.name(x, 4, "middle");
        x.alias(4);
        Check.name(x, 4, "low");
        Check.answers("aliases count", 4, () -> x.twice());
        Check.namedStreet(x, 1, "middle");
        Check.answers("an alias and a first name, each street once", 5, () -> x.twice());
        Check.landmark(x, 0, 1, "mill");
        Check.namedStreet(x, 1, "mill");
        Check.answers("landmarks do not count", 5, () -> x.twice());
        x.close(0, true);
        Check.answers("closed ones do", 5, () -> x.twice());
        comparesEveryLetter();
        Check.end();
    }

    private static void comparesEveryLetter() {
        String[] names = {"abcdefghijklmnop", "xbcdefghijklmnop", "abcdefghijklmnox", "abcdefgxijklmnop"};
        AddressWords x = new AddressWords();
        for (String name : names) {
            Check.namedStreet(x, 0, name);
        }
        Check.answers("a letter makes another name", 0, () -> x.twice());
        Check.namedStreet(x, 0, names[0]);
        Check.answers("all 16 letters the same", 2, () -> x.twice());
    }
}
