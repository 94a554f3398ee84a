/** Promise 4: alias. */
public final class Promise04AliasTest {
    public static void main(String[] args) {
        tellsHowManyNames();
        startsEmpty();
        refusesUnknownStreets();
        refusesBehindAnEmptyName();
        refusesMoreThanThree();
        wantsTheEmptyNameBeforeTheRoom();
        changesNothingWhenRefused();
        Check.end();
    }

    private static AddressWords withNames(String... names) {
        AddressWords x = Check.withStreets(1);
        for (int i = 0; i < names.length; i++) {
            if (i > 0) {
                x.alias(0);
            }
            Check.name(x, 0, names[i]);
        }
        return x;
    }

    private static void tellsHowManyNames() {
        Check.sentence("Promise 4", "One more name of it, empty yet: how many.");
        AddressWords x = withNames("one");
        Check.namedStreet(x, 0, "other");
        Check.answers("a second name", 2, () -> x.alias(0));
        Check.sign(x, 0, "two");
        Check.answers("a third name", 3, () -> x.alias(0));
        Check.sign(x, 0, "three");
        Check.answers("a second name of another street", 2, () -> x.alias(1));
        for (String name : new String[] {"one", "two", "three"}) {
            Check.tells(x, name, "0 0 2 0 0 -1");
        }
    }

    private static void startsEmpty() {
        Check.sentence("Promise 4", "empty yet");
        AddressWords x = withNames("one", "");
        Check.nearest(x, "zzz", 3, 3);
        Check.nearest(x, "z", 3, 3);
        Check.answers("its first letters", 2, () -> Check.sign(x, 0, "zz"));
        Check.nearest(x, "zzz", 3, 1);
    }

    private static void refusesUnknownStreets() {
        Check.sentence("Promise 4", "IllegalArgumentException: likewise");
        AddressWords x = withNames("one");
        for (int street : Check.outside(0, 0)) {
            Check.refuses("street " + street, Check.ARGUMENT, () -> x.alias(street));
        }
        AddressWords full = Check.withStreets(30);
        Check.sign(full, 29, "a");
        Check.refuses("street 30 of 30", Check.ARGUMENT, () -> full.alias(30));
        Check.answers("street 29 of 30", 2, () -> full.alias(29));
    }

    private static void refusesBehindAnEmptyName() {
        Check.sentence("Promise 4", "IllegalStateException: the latest one is empty");
        AddressWords bare = Check.withStreets(1);
        Check.refuses("the first name is empty", Check.STATE, () -> bare.alias(0));
        AddressWords x = withNames("one", "");
        Check.refuses("the second name is empty", Check.STATE, () -> x.alias(0));
        Check.sign(x, 0, "a");
        Check.answers("one letter is enough", 3, () -> x.alias(0));
    }

    private static void refusesMoreThanThree() {
        Check.sentence("Promise 4", "UnsupportedOperationException: there are 3");
        AddressWords x = withNames("one", "two", "three");
        Check.refuses("a fourth name", Check.ROOM, () -> x.alias(0));
        Check.sign(x, 0, "more");
        Check.refuses("a fourth name still", Check.ROOM, () -> x.alias(0));
    }

    private static void wantsTheEmptyNameBeforeTheRoom() {
        Check.sentence("Promise 4", "the first of these that is so");
        AddressWords x = withNames("one", "two", "");
        Check.refuses("the third name is empty", Check.STATE, () -> x.alias(0));
        Check.sign(x, 0, "a");
        Check.refuses("the street before the room", Check.ARGUMENT, () -> x.alias(1));
        AddressWords bare = Check.withStreets(1);
        Check.refuses("the street before the empty name", Check.ARGUMENT, () -> bare.alias(1));
    }

    private static void changesNothingWhenRefused() {
        Check.sentence("Promise 4", "Refusals");
        AddressWords x = Check.withStreets(1);
        Check.outcome(() -> x.alias(0));
        Check.sign(x, 0, "one");
        Check.answers("two names behind a refused one", 2, () -> x.alias(0));
        Check.sign(x, 0, "two");
        Check.alias(x, 0, "thre");
        Check.outcome(() -> x.alias(0));
        Check.answers("the third name is still the latest", 5, () -> Check.sign(x, 0, "e"));
        Check.nearest(x, "three", 3, 0);
    }
}
