public final class Promise14FindTest {
    public static void main(String[] args) {
        comparesLetters();
        comparesAllWordsWithAllNames();
        ordersPlaces();
        takesTheFirstNumber();
        refusesWrongInput();
        Check.end();
    }

    private static void distance(String name, String signs, int due) {
        AddressWords x = new AddressWords();
        Check.namedStreet(x, 0, name);
        Check.say(x, signs);
        x.find(1);
        Check.answers("distance of " + name + " and " + signs, due, () -> x.place(0, 3));
    }

    private static void comparesLetters() {
        distance("abc", "abc", 0);
        distance("abc", "abxc", 1);
        distance("abc", "xabc", 1);
        distance("abc", "abcx", 1);
        distance("abc", "ac", 1);
        distance("abc", "axc", 1);
        distance("abc", "acb", 1);
        distance("abc", "bac", 1);
        distance("ab", "ba", 1);
        distance("abcd", "badc", 2);
        distance("abc", "cab", 2);
        // Optimal string alignment: no letter is put in between two that are swapped.
        distance("ca", "abc", 3);
        distance("kitten", "sitting", 3);
        distance("a", "bbbbbbbb", 8);
        distance("abcdefghijklmnop", "abcdefghijklmnop", 0);
        distance("abcdefghijklmnop", "ponmlkjihgfedcba", 15);
        distance("a", "bbbbbbbbbbbbbbbbbbbbbbbbbbbbbbbbbbbbbbbb", 40);
        distance("b", "bbbbbbbbbbbbbbbbbbbbbbbbbbbbbbbbbbbbbbbb", 39);
        distance("aaaaaaaaaaaaaaaa", "b", 16);
    }

    private static void comparesAllWordsWithAllNames() {
        distance("abc", "x  abd 5 zzzz", 1);
        distance("abc", "zzzz abd", 1);
        distance("abc", "12abc34", 0);
        distance("abc", "ab7c", 1);
        distance("abc", "   ", 99);
        distance("abc", "123", 99);
        distance("", "abc", 99);
        distance("z", "a b c d e f g h i j k l m n o p q r s z", 0);
        distance("z", "a1b1c1d1e1f1g1h1i1j1k1l1m1n1o1p1q1r1s1z1", 0);
        AddressWords x = new AddressWords();
        Check.namedStreet(x, 0, "first");
        x.alias(0);
        Check.name(x, 0, "second");
        x.alias(0);
        Check.name(x, 0, "third");
        for (String said : new String[] {"firsd", "seconds", "hird"}) {
            Check.say(x, "qqqqqqqqqq " + said);
            x.find(1);
            Check.answers("distance of " + said, 1, () -> x.place(0, 3));
        }
    }

    private static void ordersPlaces() {
        AddressWords x = new AddressWords();
        String[] names = {"abcd", "abc", "zzzzzz", "abc", "abd"};
        for (int i = 0; i < names.length; i++) {
            Check.namedStreet(x, i, names[i]);
        }
        Check.landmark(x, 4, 11, "abe");
        Check.landmark(x, 3, 12, "abc");
        Check.landmark(x, 2, 13, "abf");
        String[] due = {"1 0 2 0 1 -1", "3 0 2 0 3 -1", "3 12 3 0 3 1", "0 0 2 1 0 -1", "4 0 2 1 4 -1",
            "4 11 3 1 4 0", "2 13 3 1 2 2", "2 0 2 6 2 -1"};
        Check.say(x, "abc");
        for (int k = 1; k <= 10; k++) {
            int wanted = k;
            int count = Math.min(k, due.length);
            Check.answers("find " + k, count, () -> x.find(wanted));
            for (int i = 0; i < count; i++) {
                Check.same("place " + i + " of " + k, due[i], Check.place(x, i));
            }
            Check.refuses("a place more", Check.ARGUMENT, () -> x.place(count, 0));
        }
    }

    private static void takesTheFirstNumber() {
        AddressWords x = new AddressWords();
        Check.namedStreet(x, 0, "a");
        x.range(0, 2, 3, 7);
        x.range(0, 0, 20, 30);
        x.range(0, 1, 13, 15);
        house(x, "a 5", "0 5 0 0 0 -1");
        house(x, "5a", "0 5 0 0 0 -1");
        house(x, "a5 22", "0 5 0 0 0 -1");
        house(x, "a 0005", "0 5 0 0 0 -1");
        house(x, "a 10", "0 7 1 0 0 -1");
        house(x, "a 11", "0 13 1 0 0 -1");
        house(x, "a 14", "0 13 1 0 0 -1");
        house(x, "a 25", "0 24 1 0 0 -1");
        house(x, "a 9999", "0 30 1 0 0 -1");
        house(x, "a 0", "0 0 2 0 0 -1");
        house(x, "a 0000 5", "0 0 2 0 0 -1");
        house(x, "a", "0 0 2 0 0 -1");
        AddressWords bare = new AddressWords();
        Check.namedStreet(bare, 0, "a");
        house(bare, "a 1234", "0 1234 1 0 0 -1");
        house(bare, "a 12345", "0 9999 1 0 0 -1");
        house(bare, "a 00001", "0 9999 1 0 0 -1");
        house(bare, "a 00000000000000000000000000000000000001", "0 9999 1 0 0 -1");
        house(bare, "a 10005 7", "0 9999 1 0 0 -1");
        bare.range(0, 0, 3, 9999);
        house(bare, "a 12345", "0 9998 1 0 0 -1");
    }

    private static void house(AddressWords x, String signs, String due) {
        Check.say(x, signs);
        x.find(1);
        Check.same(signs, due, Check.place(x, 0));
    }

    private static void refusesWrongInput() {
        AddressWords x = new AddressWords();
        for (int k : new int[] {Integer.MIN_VALUE, -1, 0, 11, Integer.MAX_VALUE}) {
            Check.refuses("k goes before nothing said", Check.INDEX, () -> x.find(k));
        }
        Check.refuses("nothing said", Check.STATE, () -> x.find(10));
        x.street(8);
        x.word(' ', 1);
        Check.answers("a blank is said", 1, () -> x.find(10));
        Check.refuses("k 11", Check.INDEX, () -> x.find(11));
        Check.same("a refused find changes nothing", "0 0 2 99 8 -1", Check.place(x, 0));
    }
}
