/** Promise 14: find. */
public final class Promise14FindTest {
    public static void main(String[] args) {
        looksForKPlaces();
        tellsHowManyThereAre();
        tellsOfTheFullMap();
        refusesOtherCounts();
        refusesWhenNothingIsSaid();
        findsByBlanksAndDigits();
        wantsKBeforeNothingSaid();
        changesNothingWhenRefused();
        Check.end();
    }

    /** Streets 0 to 4 and landmarks 0 to 2, and what "abc" finds of them, in order. */
    private static final String[] FOUND = {"1 0 2 0 1 -1", "3 0 2 0 3 -1", "3 12 3 0 3 1", "0 0 2 1 0 -1",
        "4 0 2 1 4 -1", "4 11 3 1 4 0", "2 13 3 1 2 2", "2 0 2 6 2 -1"};

    private static AddressWords eightPlaces() {
        AddressWords x = new AddressWords();
        String[] names = {"abcd", "abc", "zzzzzz", "abc", "abd"};
        for (int i = 0; i < names.length; i++) {
            Check.namedStreet(x, i, names[i]);
        }
        Check.landmark(x, 4, 11, "abe");
        Check.landmark(x, 3, 12, "abc");
        Check.landmark(x, 2, 13, "abf");
        return x;
    }

    private static void looksForKPlaces() {
        Check.sentence("Promise 14", "Looks for k (1 .. 10) places");
        AddressWords x = eightPlaces();
        Check.say(x, "abc");
        for (int k = 1; k <= 8; k++) {
            int wanted = k;
            Check.answers("find " + k, k, () -> x.find(wanted));
            Check.same("its last place", FOUND[k - 1], Check.place(x, k - 1));
            Check.refuses("no place more", Check.ARGUMENT, () -> x.place(wanted, 0));
        }
        x.find(8);
        for (int i = 0; i < 8; i++) {
            Check.same("place " + i, FOUND[i], Check.place(x, i));
        }
    }

    private static void tellsHowManyThereAre() {
        Check.sentence("Promise 14", "how many there are");
        AddressWords x = eightPlaces();
        Check.say(x, "abc");
        Check.answers("9 of 8", 8, () -> x.find(9));
        Check.answers("10 of 8", 8, () -> x.find(10));
        Check.same("the last one", FOUND[7], Check.place(x, 7));
        Check.refuses("no ninth", Check.ARGUMENT, () -> x.place(8, 0));
        AddressWords none = new AddressWords();
        Check.say(none, "abc 7");
        Check.answers("1 of none", 0, () -> none.find(1));
        Check.answers("10 of none", 0, () -> none.find(10));
        Check.refuses("no place of none", Check.ARGUMENT, () -> none.place(0, 0));
        AddressWords one = Check.withStreets(1);
        Check.say(one, "abc");
        Check.answers("10 of 1", 1, () -> one.find(10));
    }

    private static void tellsOfTheFullMap() {
        Check.sentence("Promise 14", "how many there are");
        AddressWords x = Check.withStreets(30);
        Check.sign(x, 29, "ab");
        for (int i = 0; i < 20; i++) {
            Check.landmark(x, i, i + 1, "" + (char) ('a' + i) + (char) ('b' + i));
        }
        Check.say(x, "tu");
        Check.answers("10 of 50", 10, () -> x.find(10));
        Check.same("the last landmark is the nearest", "19 20 3 0 0 19", Check.place(x, 0));
        Check.say(x, "ab");
        Check.answers("2 of 50", 2, () -> x.find(2));
        Check.same("the last street before landmarks", "29 0 2 0 0 -1", Check.place(x, 0));
        Check.same("the first landmark", "0 1 3 0 0 0", Check.place(x, 1));
    }

    private static void refusesOtherCounts() {
        Check.sentence("Promise 14", "IndexOutOfBoundsException: k is not so");
        AddressWords x = eightPlaces();
        Check.say(x, "abc");
        for (int k : Check.outside(1, 10)) {
            Check.refuses("k " + k, Check.INDEX, () -> x.find(k));
        }
    }

    private static void refusesWhenNothingIsSaid() {
        Check.sentence("Promise 14", "IllegalStateException: nothing is said");
        AddressWords x = eightPlaces();
        Check.refuses("before words", Check.STATE, () -> x.find(1));
        Check.refuses("10 before words", Check.STATE, () -> x.find(10));
        Check.say(x, "abc");
        x.word(0, 0);
        Check.refuses("behind n 0", Check.STATE, () -> x.find(1));
        AddressWords bare = new AddressWords();
        Check.refuses("without streets", Check.STATE, () -> bare.find(1));
    }

    private static void findsByBlanksAndDigits() {
        Check.sentence("Promise 14", "nothing is said");
        AddressWords x = eightPlaces();
        Check.tells(x, " ", "0 0 2 99 0 -1");
        Check.tells(x, "5", "0 5 1 99 0 -1");
        Check.tells(x, "0", "0 0 2 99 0 -1");
    }

    private static void wantsKBeforeNothingSaid() {
        Check.sentence("Promise 14", "the first of these that is so");
        AddressWords x = eightPlaces();
        for (int k : Check.outside(1, 10)) {
            Check.refuses("k " + k, Check.INDEX, () -> x.find(k));
        }
    }

    private static void changesNothingWhenRefused() {
        Check.sentence("Promise 14", "Refusals");
        AddressWords x = eightPlaces();
        Check.say(x, "abc");
        x.find(2);
        Check.outcome(() -> x.find(0));
        Check.outcome(() -> x.find(11));
        Check.same("the first place stays", FOUND[0], Check.place(x, 0));
        Check.same("the second place stays", FOUND[1], Check.place(x, 1));
        Check.refuses("there is no third", Check.ARGUMENT, () -> x.place(2, 0));
    }
}
