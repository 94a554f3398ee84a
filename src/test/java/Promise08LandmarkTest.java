/** Promise 8: landmark. */
public final class Promise08LandmarkTest {
    public static void main(String[] args) {
        countsFromZero();
        takesTheLowestBytes();
        refusesUnknownStreets();
        refusesOtherHouses();
        takesTheFirstAndLastHouse();
        refusesOtherCounts();
        refusesBytesThatAreNoLetters();
        refusesANameThatOneHas();
        takesOtherNames();
        refusesMoreThan20();
        wantsTheStreetFirst();
        wantsTheFirstRefusal();
        changesNothingWhenRefused();
        Check.end();
    }

    private static String numbered(int i) {
        return "mark" + (char) ('a' + i);
    }

    private static AddressWords withLandmarks(int count) {
        AddressWords x = Check.withStreets(1);
        for (int i = 0; i < count; i++) {
            Check.landmark(x, 0, i + 1, numbered(i));
        }
        return x;
    }

    private static void countsFromZero() {
        Check.sentence("Promise 8", "One more landmark with the letters of a long");
        AddressWords x = Check.withStreets(2);
        for (int i = 0; i < 20; i++) {
            int number = i;
            Check.answers("landmark " + i, i, () -> Check.landmark(x, number % 2, number + 1, numbered(number)));
        }
        for (int i = 0; i < 20; i++) {
            Check.nearest(x, numbered(i), 5, i);
        }
    }

    private static void takesTheLowestBytes() {
        Check.sentence("Promise 8", "the lowest n bytes, the highest of these first; n 1 .. 8");
        AddressWords x = Check.withStreets(1);
        for (int n = 1; n <= 8; n++) {
            int count = n;
            Check.answers("n " + n, n - 1, () -> x.landmark(0, 5, Check.pack("hgfedcba"), count));
            Check.tells(x, "hgfedcba".substring(8 - n), "0 5 3 0 0 " + (n - 1));
        }
        for (int n = 1; n < 8; n++) {
            int count = n;
            long others = -1L << 8 * n;
            long packed = others | Check.pack("zyxwvuts") & ~others;
            Check.answers("other bytes above " + n, 7 + n, () -> x.landmark(0, 5, packed, count));
            Check.tells(x, "zyxwvuts".substring(8 - n), "0 5 3 0 0 " + (7 + n));
        }
    }

    private static void refusesUnknownStreets() {
        Check.sentence("Promise 8", "IllegalArgumentException: no such street");
        AddressWords x = Check.withStreets(2);
        for (int street : Check.outside(0, 1)) {
            Check.refuses("street " + street, Check.ARGUMENT, () -> Check.landmark(x, street, 1, "new"));
        }
        AddressWords full = Check.withStreets(30);
        Check.refuses("street 30 of 30", Check.ARGUMENT, () -> Check.landmark(full, 30, 1, "new"));
        Check.answers("street 29 of 30", 0, () -> Check.landmark(full, 29, 1, "new"));
    }

    private static void refusesOtherHouses() {
        Check.sentence("Promise 8", "IndexOutOfBoundsException: the house is not 1 .. 9,999");
        AddressWords x = Check.withStreets(1);
        for (int house : Check.outside(1, 9999)) {
            Check.refuses("house " + house, Check.INDEX, () -> Check.landmark(x, 0, house, "new"));
        }
    }

    private static void takesTheFirstAndLastHouse() {
        Check.sentence("Promise 8", "the house is not 1 .. 9,999");
        AddressWords x = Check.withStreets(1);
        Check.answers("house 1", 0, () -> Check.landmark(x, 0, 1, "low"));
        Check.answers("house 9,999", 1, () -> Check.landmark(x, 0, 9999, "high"));
        Check.tells(x, "low", "0 1 3 0 0 0");
        Check.tells(x, "high", "0 9999 3 0 0 1");
    }

    private static void refusesOtherCounts() {
        Check.sentence("Promise 8", "n is not so");
        AddressWords x = Check.withStreets(1);
        for (int n : Check.outside(1, 8)) {
            Check.refuses("n " + n, Check.INDEX, () -> x.landmark(0, 1, Check.pack("newnewne"), n));
        }
    }

    private static void refusesBytesThatAreNoLetters() {
        Check.sentence("Promise 8", "or a byte is no letter");
        for (int at = 0; at < 8; at++) {
            AddressWords x = Check.withStreets(1);
            for (int sign = 0; sign < 256; sign++) {
                if (sign < 'a' || sign > 'z') {
                    long packed = Check.packedWith(sign, at);
                    Check.refuses("byte " + sign + " at " + at, Check.INDEX, () -> x.landmark(0, 1, packed, 8));
                }
            }
            long first = Check.packedWith('a', at);
            long last = Check.packedWith('z', at);
            Check.answers("the letter a at " + at, 0, () -> x.landmark(0, 1, first, 8));
            Check.answers("the letter z at " + at, 1, () -> x.landmark(0, 1, last, 8));
        }
    }

    private static void refusesANameThatOneHas() {
        Check.sentence("Promise 8", "IllegalStateException: one has that name");
        AddressWords x = withLandmarks(19);
        x.street(1);
        for (int i = 0; i < 19; i++) {
            String name = numbered(i);
            Check.refuses(name + " again", Check.STATE, () -> Check.landmark(x, 0, 9, name));
            Check.refuses(name + " on another street", Check.STATE, () -> Check.landmark(x, 1, 9, name));
        }
        Check.refuses("the bytes above do not count", Check.STATE,
                () -> x.landmark(0, 9, Check.pack("zzz" + numbered(3)), 5));
    }

    private static void takesOtherNames() {
        Check.sentence("Promise 8", "one has that name");
        AddressWords x = new AddressWords();
        Check.namedStreet(x, 0, "mill");
        Check.landmark(x, 0, 9, "tower");
        Check.answers("the start of one", 1, () -> Check.landmark(x, 0, 9, "towe"));
        Check.answers("one and more", 2, () -> Check.landmark(x, 0, 9, "towers"));
        Check.answers("the end of one", 3, () -> Check.landmark(x, 0, 9, "ower"));
        Check.answers("another first letter", 4, () -> Check.landmark(x, 0, 9, "power"));
        Check.answers("another last letter", 5, () -> Check.landmark(x, 0, 9, "towed"));
        Check.answers("a street's name", 6, () -> Check.landmark(x, 0, 9, "mill"));
    }

    private static void refusesMoreThan20() {
        Check.sentence("Promise 8", "UnsupportedOperationException: there are 20");
        AddressWords x = withLandmarks(19);
        Check.answers("the 20th", 19, () -> Check.landmark(x, 0, 5, "last"));
        Check.refuses("a 21st", Check.ROOM, () -> Check.landmark(x, 0, 5, "new"));
        x.street(0);
        Check.refuses("a 21st on another street", Check.ROOM, () -> Check.landmark(x, 1, 5, "new"));
    }

    private static void wantsTheStreetFirst() {
        Check.sentence("Promise 8", "the first of these that is so");
        AddressWords full = withLandmarks(20);
        Check.refuses("the street before the house", Check.ARGUMENT, () -> Check.landmark(full, 1, 0, "new"));
        Check.refuses("the street before n", Check.ARGUMENT, () -> full.landmark(1, 1, 'a', 0));
        Check.refuses("the street before a byte", Check.ARGUMENT, () -> full.landmark(1, 1, 'A', 1));
        Check.refuses("the street before the name", Check.ARGUMENT, () -> Check.landmark(full, 1, 1, numbered(0)));
        Check.refuses("the street before the room", Check.ARGUMENT, () -> Check.landmark(full, -1, 1, "new"));
    }

    private static void wantsTheFirstRefusal() {
        Check.sentence("Promise 8", "the first of these that is so");
        AddressWords full = withLandmarks(20);
        Check.refuses("the house before the name", Check.INDEX, () -> Check.landmark(full, 0, 0, numbered(0)));
        Check.refuses("the house before the room", Check.INDEX, () -> Check.landmark(full, 0, 10000, "new"));
        Check.refuses("n before the room", Check.INDEX, () -> full.landmark(0, 1, Check.pack("newnewne"), 9));
        Check.refuses("a byte before the room", Check.INDEX, () -> Check.landmark(full, 0, 1, "neW"));
        Check.refuses("the name before the room", Check.STATE, () -> Check.landmark(full, 0, 1, numbered(19)));
        AddressWords x = withLandmarks(1);
        Check.refuses("the house before a name, with room", Check.INDEX, () -> Check.landmark(x, 0, 0, numbered(0)));
    }

    private static void changesNothingWhenRefused() {
        Check.sentence("Promise 8", "Refusals");
        AddressWords x = withLandmarks(1);
        Check.outcome(() -> Check.landmark(x, 1, 7, "new"));
        Check.outcome(() -> Check.landmark(x, 0, 0, "new"));
        Check.outcome(() -> x.landmark(0, 7, Check.pack("new"), 9));
        Check.outcome(() -> Check.landmark(x, 0, 7, "new "));
        Check.outcome(() -> Check.landmark(x, 0, 7, numbered(0)));
        Check.tells(x, numbered(0), "0 1 3 0 0 0");
        Check.answers("the name is free, the number the next one", 1, () -> Check.landmark(x, 0, 7, "new"));
        AddressWords full = withLandmarks(20);
        Check.outcome(() -> Check.landmark(full, 0, 7, "zzzzzzzz"));
        Check.say(full, "zzzzzzzz");
        full.find(1);
        Check.answers("no landmark of that name", 8, () -> full.place(0, 3));
    }
}
