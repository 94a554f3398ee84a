/** Promise 5: range. */
public final class Promise05RangeTest {
    public static void main(String[] args) {
        tellsHowManyRanges();
        refusesUnknownStreets();
        refusesOtherSides();
        refusesOtherNumbers();
        takesTheFirstAndLastNumber();
        refusesRangesWithoutHouse();
        takesRangesOfOneHouse();
        refusesMoreThanSix();
        wantsTheFirstRefusal();
        changesNothingWhenRefused();
        Check.end();
    }

    private static AddressWords withSixRanges() {
        AddressWords x = Check.withStreets(1);
        Check.sign(x, 0, "a");
        for (int i = 0; i < 6; i++) {
            x.range(0, 2, 10 * i + 10, 10 * i + 12);
        }
        return x;
    }

    private static void tellsHowManyRanges() {
        Check.sentence("Promise 5", "One more range: how many.");
        AddressWords x = Check.withStreets(2);
        for (int i = 1; i <= 6; i++) {
            int side = i % 3;
            Check.answers("range " + i, i, () -> x.range(0, side, 1, 2));
        }
        Check.answers("the first of another street", 1, () -> x.range(1, 0, 1, 2));
    }

    private static void refusesUnknownStreets() {
        Check.sentence("Promise 5", "IllegalArgumentException: no such street");
        AddressWords x = Check.withStreets(1);
        for (int street : Check.outside(0, 0)) {
            Check.refuses("street " + street, Check.ARGUMENT, () -> x.range(street, 0, 1, 2));
        }
        AddressWords full = Check.withStreets(30);
        Check.refuses("street 30 of 30", Check.ARGUMENT, () -> full.range(30, 0, 1, 2));
        Check.answers("street 29 of 30", 1, () -> full.range(29, 0, 1, 2));
    }

    private static void refusesOtherSides() {
        Check.sentence("Promise 5", "IndexOutOfBoundsException: no such side");
        AddressWords x = Check.withStreets(1);
        for (int side : Check.outside(0, 2)) {
            Check.refuses("side " + side, Check.INDEX, () -> x.range(0, side, 1, 9));
        }
    }

    private static void refusesOtherNumbers() {
        Check.sentence("Promise 5", "no such side or numbers");
        AddressWords x = Check.withStreets(1);
        for (int house : Check.outside(1, 9999)) {
            for (int side = 0; side < 3; side++) {
                int of = side;
                Check.refuses("low " + house, Check.INDEX, () -> x.range(0, of, house, 9999));
                Check.refuses("high " + house, Check.INDEX, () -> x.range(0, of, 1, house));
                Check.refuses("both " + house, Check.INDEX, () -> x.range(0, of, house, house));
            }
        }
    }

    private static void takesTheFirstAndLastNumber() {
        Check.sentence("Promise 5", "no such side or numbers");
        AddressWords x = Check.withStreets(1);
        Check.sign(x, 0, "a");
        Check.answers("1 to 9,999", 1, () -> x.range(0, 2, 1, 9999));
        Check.tells(x, "a 1", "0 1 0 0 0 -1");
        Check.tells(x, "a 9999", "0 9999 0 0 0 -1");
    }

    private static void refusesRangesWithoutHouse() {
        Check.sentence("Promise 5", "or it would have no house");
        AddressWords x = Check.withStreets(1);
        int[][] empty = {{2, 5, 4}, {2, 9999, 1}, {0, 6, 4}, {0, 5, 4}, {0, 6, 5}, {0, 5, 5}, {0, 1, 1},
            {0, 9999, 9999}, {0, 9999, 9998}, {1, 5, 3}, {1, 4, 3}, {1, 5, 4}, {1, 4, 4}, {1, 2, 2},
            {1, 9998, 9998}, {1, 2, 1}};
        for (int[] one : empty) {
            Check.refuses("side " + one[0] + " from " + one[1] + " to " + one[2], Check.INDEX,
                    () -> x.range(0, one[0], one[1], one[2]));
        }
    }

    private static void takesRangesOfOneHouse() {
        Check.sentence("Promise 5", "it would have no house");
        // A side, from, to, and the one house that it has.
        int[][] single = {{2, 7, 7, 7}, {2, 1, 1, 1}, {2, 9999, 9999, 9999}, {0, 4, 4, 4}, {0, 1, 2, 2},
            {0, 9998, 9999, 9998}, {0, 3, 5, 4}, {1, 1, 1, 1}, {1, 1, 2, 1}, {1, 9998, 9999, 9999}, {1, 4, 6, 5}};
        for (int[] one : single) {
            AddressWords x = Check.withStreets(1);
            Check.sign(x, 0, "a");
            String range = "side " + one[0] + " from " + one[1] + " to " + one[2];
            Check.answers(range, 1, () -> x.range(0, one[0], one[1], one[2]));
            Check.tells(x, "a 1", "0 " + one[3] + (one[3] == 1 ? " 0" : " 1") + " 0 0 -1");
            Check.tells(x, "a 9999", "0 " + one[3] + (one[3] == 9999 ? " 0" : " 1") + " 0 0 -1");
        }
    }

    private static void refusesMoreThanSix() {
        Check.sentence("Promise 5", "UnsupportedOperationException: there are 6");
        AddressWords x = withSixRanges();
        for (int side = 0; side < 3; side++) {
            int of = side;
            Check.refuses("a seventh range", Check.ROOM, () -> x.range(0, of, 1, 9999));
        }
        x.street(0);
        Check.answers("another street has room", 1, () -> x.range(1, 0, 1, 9999));
    }

    private static void wantsTheFirstRefusal() {
        Check.sentence("Promise 5", "the first of these that is so");
        AddressWords x = withSixRanges();
        Check.refuses("the street before the side", Check.ARGUMENT, () -> x.range(1, 3, 1, 2));
        Check.refuses("the street before low", Check.ARGUMENT, () -> x.range(1, 0, 0, 2));
        Check.refuses("the street before high", Check.ARGUMENT, () -> x.range(1, 0, 1, 10000));
        Check.refuses("the street before no house", Check.ARGUMENT, () -> x.range(-1, 0, 1, 1));
        Check.refuses("the side before the room", Check.INDEX, () -> x.range(0, 3, 1, 2));
        Check.refuses("low before the room", Check.INDEX, () -> x.range(0, 2, 0, 2));
        Check.refuses("high before the room", Check.INDEX, () -> x.range(0, 2, 1, 10000));
        Check.refuses("no house before the room", Check.INDEX, () -> x.range(0, 1, 2, 2));
    }

    private static void changesNothingWhenRefused() {
        Check.sentence("Promise 5", "Refusals");
        AddressWords x = Check.withStreets(1);
        Check.sign(x, 0, "a");
        Check.outcome(() -> x.range(0, 3, 1, 9));
        Check.outcome(() -> x.range(0, 2, 0, 9));
        Check.outcome(() -> x.range(0, 2, 1, 10000));
        Check.outcome(() -> x.range(0, 0, 5, 5));
        Check.tells(x, "a 5", "0 5 1 0 0 -1");
        Check.answers("the first range behind refused ones", 1, () -> x.range(0, 2, 8, 9));
        AddressWords full = withSixRanges();
        Check.outcome(() -> full.range(0, 2, 100, 200));
        Check.tells(full, "a 100", "0 62 1 0 0 -1");
        Check.tells(full, "a 11", "0 11 0 0 0 -1");
    }
}
