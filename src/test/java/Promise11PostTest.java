/** Promise 11: post. */
public final class Promise11PostTest {
    public static void main(String[] args) {
        tellsPointsAsOneNumber();
        roundsToTheNearest();
        roundsHalvesUp();
        goesAlongTheWholeLength();
        tellsTheFirstPointWithoutLength();
        refusesUnknownStreets();
        refusesMetresBelowZero();
        refusesMetresBeyondItsLength();
        wantsTheStreetBeforeMetres();
        changesNothing();
        Check.end();
    }

    private static AddressWords withLine(int x, int y, int tox, int toy) {
        AddressWords made = Check.withStreets(1);
        made.line(0, x, y, tox, toy);
        return made;
    }

    private static void at(int[] line, int metres, int dueX, int dueY) {
        AddressWords x = withLine(line[0], line[1], line[2], line[3]);
        Check.answers("metres " + metres + " from " + line[0] + ", " + line[1] + " to " + line[2] + ", " + line[3],
                Check.point(dueX, dueY), () -> x.post(0, metres));
    }

    private static void tellsPointsAsOneNumber() {
        Check.sentence("Promise 11", "20,000 times x, and y, both with 10,000 more");
        AddressWords x = withLine(1, 2, -9999, -9999);
        Check.answers("1, 2", 200030002, () -> x.post(0, 0));
        AddressWords least = withLine(-9999, -9999, 0, 0);
        Check.answers("the least point", 20001, () -> least.post(0, 0));
        AddressWords greatest = withLine(9999, 9999, 0, 0);
        Check.answers("the greatest point", 399999999, () -> greatest.post(0, 0));
        AddressWords mixed = withLine(-9999, 9999, 0, 0);
        Check.answers("the least x, the greatest y", 39999, () -> mixed.post(0, 0));
        AddressWords bare = Check.withStreets(1);
        Check.answers("0, 0", 200010000, () -> bare.post(0, 0));
    }

    private static void roundsToTheNearest() {
        Check.sentence("Promise 11", "rounded to the nearest whole number");
        at(new int[] {0, 0, 6, 8}, 5, 3, 4);
        // 0.6 and 0.8, 1.2 and 1.6, 1.8 and 2.4.
        at(new int[] {0, 0, 30, 40}, 1, 1, 1);
        at(new int[] {0, 0, 30, 40}, 2, 1, 2);
        at(new int[] {0, 0, 30, 40}, 3, 2, 2);
        at(new int[] {0, 0, -30, -40}, 1, -1, -1);
        at(new int[] {0, 0, -30, -40}, 2, -1, -2);
        at(new int[] {0, 0, -30, -40}, 3, -2, -2);
        // 3.64 and 12.48.
        at(new int[] {0, 0, 7, 24}, 13, 4, 12);
        at(new int[] {100, -100, 107, -76}, 13, 104, -88);
    }

    /** A length of 2 (the root of 5 and of 8) makes halves of odd ways. */
    private static void roundsHalvesUp() {
        Check.sentence("Promise 11", "(halves up)");
        at(new int[] {0, 0, 1, 2}, 1, 1, 1);
        at(new int[] {0, 0, -1, -2}, 1, 0, -1);
        at(new int[] {0, 0, 2, 1}, 1, 1, 1);
        at(new int[] {0, 0, -2, -1}, 1, -1, 0);
        at(new int[] {5, 5, 4, 3}, 1, 5, 4);
        at(new int[] {-5, -5, -3, -4}, 1, -4, -4);
        at(new int[] {-9999, 9999, -9998, 9997}, 1, -9998, 9998);
        at(new int[] {9999, -9999, 9998, -9997}, 1, 9999, -9998);
    }

    private static void goesAlongTheWholeLength() {
        Check.sentence("Promise 11", "along its line");
        // 28,281 is the length rounded down; by the true one the middle would be at -1, -1.
        int[] longest = {-9999, -9999, 9999, 9999};
        at(longest, 0, -9999, -9999);
        at(longest, 14140, 0, 0);
        at(longest, 28281, 9999, 9999);
        int[] back = {9999, 9999, -9999, -9999};
        at(back, 28281, -9999, -9999);
        at(back, 28280, -9998, -9998);
        at(new int[] {3, 4, 30, 40}, 45, 30, 40);
        at(new int[] {7, 7, 8, 8}, 1, 8, 8);
        at(new int[] {7, 7, 8, 8}, 0, 7, 7);
    }

    private static void tellsTheFirstPointWithoutLength() {
        Check.sentence("Promise 11", "the first point of one without length");
        at(new int[] {0, 0, 0, 0}, 0, 0, 0);
        at(new int[] {7, -8, 7, -8}, 0, 7, -8);
        at(new int[] {-9999, 9999, -9999, 9999}, 0, -9999, 9999);
        AddressWords bare = Check.withStreets(1);
        Check.answers("one without a line", Check.point(0, 0), () -> bare.post(0, 0));
        Check.refuses("a metre without length", Check.INDEX, () -> bare.post(0, 1));
    }

    private static void refusesUnknownStreets() {
        Check.sentence("Promise 11", "IllegalArgumentException: no such street");
        AddressWords x = Check.withStreets(2);
        for (int street : Check.outside(0, 1)) {
            Check.refuses("street " + street, Check.ARGUMENT, () -> x.post(street, 0));
        }
        AddressWords full = Check.withStreets(30);
        Check.refuses("street 30 of 30", Check.ARGUMENT, () -> full.post(30, 0));
        Check.answers("street 29 of 30", Check.point(0, 0), () -> full.post(29, 0));
    }

    private static void refusesMetresBelowZero() {
        Check.sentence("Promise 11", "IndexOutOfBoundsException: metres below 0");
        AddressWords x = withLine(0, 0, 30, 40);
        AddressWords bare = Check.withStreets(1);
        for (int metres : new int[] {Integer.MIN_VALUE, -65536, -256, -50, -1}) {
            Check.refuses("metres " + metres, Check.INDEX, () -> x.post(0, metres));
            Check.refuses("metres " + metres + " without length", Check.INDEX, () -> bare.post(0, metres));
        }
    }

    private static void refusesMetresBeyondItsLength() {
        Check.sentence("Promise 11", "or beyond its length");
        AddressWords x = withLine(0, 0, 30, 40);
        for (int metres : new int[] {51, 50 + 256, 50 + 65536, Integer.MAX_VALUE}) {
            Check.refuses("metres " + metres, Check.INDEX, () -> x.post(0, metres));
        }
        Check.answers("its length", Check.point(30, 40), () -> x.post(0, 50));
        AddressWords longest = withLine(-9999, -9999, 9999, 9999);
        Check.refuses("beyond the longest", Check.INDEX, () -> longest.post(0, 28282));
    }

    private static void wantsTheStreetBeforeMetres() {
        Check.sentence("Promise 11", "the first of these that is so");
        AddressWords x = withLine(0, 0, 30, 40);
        Check.refuses("metres below 0", Check.ARGUMENT, () -> x.post(1, -1));
        Check.refuses("metres beyond", Check.ARGUMENT, () -> x.post(-1, 51));
    }

    private static void changesNothing() {
        Check.sentence("Promise 11", "The point at metres of a street");
        AddressWords x = withLine(0, 0, 30, 40);
        Check.answers("first", Check.point(15, 20), () -> x.post(0, 25));
        Check.answers("another", Check.point(30, 40), () -> x.post(0, 50));
        Check.answers("first again", Check.point(15, 20), () -> x.post(0, 25));
    }
}
