/** The terms of what find tells; each names the promise whose calls show it. */
public final class TermsPlacesTest {
    public static void main(String[] args) {
        theLeastDistanceComesFirst();
        streetsComeBeforeLandmarks();
        thenByNumbers();
        reason0IsAHouseInARange();
        reason1IsBeyondTheRanges();
        theNearestHouseIsTold();
        ofTheSameTheLowerOneIsTold();
        theHouseItselfWithoutRange();
        reason2IsNoHouseSaid();
        reason3IsALandmark();
        tenMoreIfClosed();
        aLandmarksHouseIsItsOwn();
        Check.end();
    }

    private static AddressWords withRanges(int[]... ranges) {
        AddressWords x = new AddressWords();
        Check.namedStreet(x, 0, "a");
        for (int[] one : ranges) {
            x.range(0, one[0], one[1], one[2]);
        }
        return x;
    }

    private static void told(AddressWords x, int said, int house, int reason) {
        Check.tells(x, "a " + said, "0 " + house + " " + reason + " 0 0 -1");
    }

    private static void theLeastDistanceComesFirst() {
        Check.sentence("Terms, promise 14", "find(k) tells the k places with the least distance");
        AddressWords x = new AddressWords();
        for (int i = 0; i < 12; i++) {
            Check.namedStreet(x, 0, "a" + "b".repeat(12 - i));
        }
        String[] due = new String[10];
        for (int i = 0; i < 10; i++) {
            due[i] = 11 - i + " 0 2 " + (i + 1) + " 0 -1";
        }
        Check.tells(x, "a", due);
        Check.tells(x, "a", due[0]);
        Check.tells(x, "abbbbbbbbbbbb", "0 0 2 0 0 -1", "1 0 2 1 0 -1", "2 0 2 2 0 -1");
    }

    private static void streetsComeBeforeLandmarks() {
        Check.sentence("Terms, promise 14", "of the same: streets before landmarks");
        AddressWords x = new AddressWords();
        Check.namedStreet(x, 0, "qqqqqqqq");
        Check.landmark(x, 0, 5, "abc");
        Check.namedStreet(x, 0, "abc");
        Check.tells(x, "abc", "1 0 2 0 0 -1", "0 5 3 0 0 0", "0 0 2 8 0 -1");
        Check.tells(x, "abd", "1 0 2 1 0 -1", "0 5 3 1 0 0");
        Check.tells(x, "7", "0 7 1 99 0 -1", "1 7 1 99 0 -1", "0 5 3 99 0 0");
    }

    private static void thenByNumbers() {
        Check.sentence("Terms, promise 14", "then by numbers");
        AddressWords x = Check.withStreets(3);
        for (int i = 0; i < 3; i++) {
            Check.landmark(x, 2 - i, i + 1, "" + (char) ('c' - i));
        }
        Check.tells(x, "z", "2 1 3 1 0 0", "1 2 3 1 0 1", "0 3 3 1 0 2", "0 0 2 99 0 -1", "1 0 2 99 0 -1",
                "2 0 2 99 0 -1");
        Check.tells(x, "z", "2 1 3 1 0 0", "1 2 3 1 0 1");
        AddressWords many = Check.withStreets(30);
        String[] due = new String[10];
        for (int i = 0; i < 10; i++) {
            due[i] = i + " 0 2 99 0 -1";
        }
        Check.tells(many, "z", due);
    }

    private static void reason0IsAHouseInARange() {
        Check.sentence("Terms, promise 15", "0 a street with a house in a range");
        AddressWords x = withRanges(new int[] {2, 10, 12}, new int[] {0, 20, 24}, new int[] {1, 31, 31});
        for (int house : new int[] {10, 11, 12, 20, 22, 24, 31}) {
            told(x, house, house, 0);
        }
        AddressWords all = withRanges(new int[] {2, 1, 9999});
        told(all, 1, 1, 0);
        told(all, 9999, 9999, 0);
    }

    private static void reason1IsBeyondTheRanges() {
        Check.sentence("Terms, promise 15", "1 a street, the house beyond its ranges");
        AddressWords x = withRanges(new int[] {2, 10, 12}, new int[] {0, 20, 24}, new int[] {1, 31, 31});
        told(x, 9, 10, 1);
        told(x, 13, 12, 1);
        told(x, 19, 20, 1);
        told(x, 21, 20, 1);
        told(x, 25, 24, 1);
        told(x, 30, 31, 1);
        told(x, 32, 31, 1);
        told(x, 1, 10, 1);
        told(x, 9999, 31, 1);
    }

    private static void theNearestHouseIsTold() {
        Check.sentence("Terms, promise 15", "the NEAREST house told is that in them which is nearest to it");
        AddressWords x = withRanges(new int[] {0, 100, 200}, new int[] {1, 301, 401}, new int[] {2, 10, 20});
        told(x, 1, 10, 1);
        told(x, 59, 20, 1);
        told(x, 61, 100, 1);
        told(x, 250, 200, 1);
        told(x, 251, 301, 1);
        told(x, 9999, 401, 1);
        AddressWords sides = withRanges(new int[] {0, 1, 10}, new int[] {1, 14, 30});
        told(sides, 1, 2, 1);
        told(sides, 11, 10, 1);
        told(sides, 12, 10, 1);
        told(sides, 13, 15, 1);
        told(sides, 14, 15, 1);
        told(sides, 30, 29, 1);
        AddressWords inner = withRanges(new int[] {0, 2, 50}, new int[] {1, 21, 21});
        told(inner, 21, 21, 0);
        told(inner, 23, 22, 1);
    }

    private static void ofTheSameTheLowerOneIsTold() {
        Check.sentence("Terms, promise 15", "of the same the lower one");
        AddressWords lowFirst = withRanges(new int[] {2, 10, 20}, new int[] {2, 30, 40});
        told(lowFirst, 25, 20, 1);
        told(lowFirst, 26, 30, 1);
        told(lowFirst, 24, 20, 1);
        AddressWords highFirst = withRanges(new int[] {2, 30, 40}, new int[] {2, 10, 20});
        told(highFirst, 25, 20, 1);
        AddressWords even = withRanges(new int[] {0, 2, 10});
        told(even, 5, 4, 1);
        told(even, 9, 8, 1);
        told(even, 1, 2, 1);
        AddressWords odd = withRanges(new int[] {1, 1, 9});
        told(odd, 2, 1, 1);
        told(odd, 8, 7, 1);
        AddressWords single = withRanges(new int[] {2, 9999, 9999}, new int[] {2, 1, 1});
        told(single, 5000, 1, 1);
        told(single, 5001, 9999, 1);
    }

    private static void theHouseItselfWithoutRange() {
        Check.sentence("Terms, promise 15", "the house itself when there is no range");
        AddressWords x = withRanges();
        told(x, 1, 1, 1);
        told(x, 1234, 1234, 1);
        told(x, 9999, 9999, 1);
        told(x, 12345, 9999, 1);
        Check.sentence("Terms, promise 15", "(or it has none)");
        told(x, 7, 7, 1);
        x.range(0, 2, 7, 7);
        told(x, 7, 7, 0);
    }

    private static void reason2IsNoHouseSaid() {
        Check.sentence("Terms, promise 15", "2 a street, no house said");
        for (AddressWords x : new AddressWords[] {withRanges(), withRanges(new int[] {2, 1, 9})}) {
            Check.tells(x, "a", "0 0 2 0 0 -1");
            Check.tells(x, "a 0", "0 0 2 0 0 -1");
            Check.tells(x, "a 0 5", "0 0 2 0 0 -1");
            Check.tells(x, " ", "0 0 2 99 0 -1");
        }
    }

    private static void reason3IsALandmark() {
        Check.sentence("Terms, promise 15", "3 a landmark");
        AddressWords x = withRanges(new int[] {2, 5, 9});
        Check.landmark(x, 0, 7, "mill");
        Check.landmark(x, 0, 99, "tower");
        for (String house : new String[] {"", " 0", " 7", " 99", " 1"}) {
            Check.tells(x, "mill" + house, "0 7 3 0 0 0");
            Check.tells(x, "tower" + house, "0 99 3 0 0 1");
        }
    }

    private static void tenMoreIfClosed() {
        Check.sentence("Terms, promise 15", "each 10 more if the street is closed");
        AddressWords x = withRanges(new int[] {2, 5, 9});
        Check.landmark(x, 0, 7, "mill");
        Check.namedStreet(x, 1, "open");
        Check.landmark(x, 1, 8, "tower");
        x.close(0, true);
        Check.tells(x, "a 6", "0 6 10 0 0 -1");
        Check.tells(x, "a 4", "0 5 11 0 0 -1");
        Check.tells(x, "a", "0 0 12 0 0 -1");
        Check.tells(x, "mill", "0 7 13 0 0 0");
        Check.tells(x, "open 3", "1 3 1 0 1 -1");
        Check.tells(x, "tower", "1 8 3 0 1 1");
        x.close(0, false);
        x.close(1, true);
        Check.tells(x, "open 3", "1 3 11 0 1 -1");
        Check.tells(x, "tower", "1 8 13 0 1 1");
        Check.tells(x, "mill", "0 7 3 0 0 0");
    }

    private static void aLandmarksHouseIsItsOwn() {
        Check.sentence("Terms, promise 15", "The house of a landmark is its own.");
        AddressWords x = withRanges(new int[] {2, 5, 9});
        Check.landmark(x, 0, 1, "mill");
        Check.landmark(x, 0, 9999, "tower");
        Check.tells(x, "mill", "0 1 3 0 0 0");
        Check.tells(x, "mill 6", "0 1 3 0 0 0");
        Check.tells(x, "tower 12345", "0 9999 3 0 0 1");
    }
}
