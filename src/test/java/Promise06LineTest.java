/** Promise 6: line. */
public final class Promise06LineTest {
    public static void main(String[] args) {
        tellsItsLength();
        takesThePlaceOfTheLineBefore();
        roundsTheRootDown();
        takesTheOutermostPoints();
        refusesUnknownStreets();
        refusesOtherCoordinates();
        wantsTheStreetBeforeCoordinates();
        changesNothingWhenRefused();
        Check.end();
    }

    private static void tellsItsLength() {
        Check.sentence("Promise 6", "Its line on the map: its length.");
        AddressWords x = Check.withStreets(1);
        Check.answers("a root", 5, () -> x.line(0, 1, 2, 4, 6));
        Check.answers("backwards", 5, () -> x.line(0, 4, 6, 1, 2));
        Check.answers("along x", 19998, () -> x.line(0, -9999, 0, 9999, 0));
        Check.answers("along y", 19998, () -> x.line(0, 0, 9999, 0, -9999));
        Check.answers("a point", 0, () -> x.line(0, 7, 7, 7, 7));
        Check.answers("one metre", 1, () -> x.line(0, 7, 7, 7, 8));
    }

    private static void takesThePlaceOfTheLineBefore() {
        Check.sentence("Promise 6", "Its line on the map");
        AddressWords x = Check.withStreets(2);
        x.line(0, 0, 0, 30, 40);
        x.line(0, 5, 6, 5, 16);
        Check.answers("its first point", Check.point(5, 6), () -> x.post(0, 0));
        Check.answers("its other point", Check.point(5, 16), () -> x.post(0, 10));
        Check.refuses("no longer 50 metres", Check.INDEX, () -> x.post(0, 11));
        Check.answers("another street's line stays", Check.point(0, 0), () -> x.post(1, 0));
        Check.answers("near goes by it", 1, () -> x.near(0, 0));
        Check.answers("a point again", 0, () -> x.line(0, 1, 1, 1, 1));
        Check.refuses("no metres on a point", Check.INDEX, () -> x.post(0, 1));
    }

    private static void roundsTheRootDown() {
        Check.sentence("Promise 6", "its LENGTH is the whole root of the square of its length, rounded down");
        for (int high = 0; high <= 9999; high += 303) {
            AddressWords x = Check.withStreets(1);
            for (int wide = 0; wide <= 9999; wide += 101) {
                int tox = wide;
                int toy = high;
                Check.answers("length to " + wide + ", " + high, slowRoot(wide, high), () -> x.line(0, 0, 0, tox, toy));
            }
        }
        roundsDownNextToSquares();
    }

    /** Twice 12, 70, .. squared is one below the square of 17, 99, ..; twice 5, 29, .. squared is one above. */
    private static void roundsDownNextToSquares() {
        Check.sentence("Promise 6", "rounded down");
        AddressWords x = Check.withStreets(1);
        int[][] below = {{2, 3}, {12, 17}, {70, 99}, {408, 577}, {2378, 3363}, {13860, 19601}};
        for (int[] one : below) {
            int half = one[0] / 2;
            Check.answers("one below the square of " + one[1], one[1] - 1, () -> x.line(0, -half, -half, half, half));
        }
        int[][] above = {{1, 1}, {5, 7}, {29, 41}, {169, 239}, {985, 1393}, {5741, 8119}};
        for (int[] one : above) {
            Check.answers("one above the square of " + one[1], one[1], () -> x.line(0, 0, 0, one[0], one[0]));
        }
        Check.answers("a square", 29, () -> x.line(0, 0, 0, 20, 21));
        Check.answers("the longest", 28281, () -> x.line(0, -9999, 9999, 9999, -9999));
    }

    private static int slowRoot(int wide, int high) {
        long square = (long) wide * wide + (long) high * high;
        long root = 0;
        while ((root + 1) * (root + 1) <= square) {
            root++;
        }
        return (int) root;
    }

    private static void takesTheOutermostPoints() {
        Check.sentence("Promise 6", "-9,999 .. 9,999");
        AddressWords x = Check.withStreets(1);
        for (int i = 0; i < 16; i++) {
            int fromX = (i & 1) == 0 ? -9999 : 9999;
            int fromY = (i & 2) == 0 ? -9999 : 9999;
            int toX = (i & 4) == 0 ? -9999 : 9999;
            int toY = (i & 8) == 0 ? -9999 : 9999;
            int length = fromX == toX && fromY == toY ? 0 : fromX == toX || fromY == toY ? 19998 : 28281;
            Check.answers("corners of the map " + i, length, () -> x.line(0, fromX, fromY, toX, toY));
            Check.answers("the first point " + i, Check.point(fromX, fromY), () -> x.post(0, 0));
            Check.answers("the other point " + i, Check.point(toX, toY), () -> x.post(0, length));
        }
    }

    private static void refusesUnknownStreets() {
        Check.sentence("Promise 6", "IllegalArgumentException: no such street");
        AddressWords x = Check.withStreets(1);
        for (int street : Check.outside(0, 0)) {
            Check.refuses("street " + street, Check.ARGUMENT, () -> x.line(street, 0, 0, 1, 1));
        }
        AddressWords full = Check.withStreets(30);
        Check.refuses("street 30 of 30", Check.ARGUMENT, () -> full.line(30, 0, 0, 1, 0));
        Check.answers("street 29 of 30", 1, () -> full.line(29, 0, 0, 1, 0));
    }

    private static void refusesOtherCoordinates() {
        Check.sentence("Promise 6", "IndexOutOfBoundsException: a coordinate is not so");
        AddressWords x = Check.withStreets(1);
        for (int bad : Check.outside(-9999, 9999)) {
            Check.refuses("x " + bad, Check.INDEX, () -> x.line(0, bad, 0, 0, 0));
            Check.refuses("y " + bad, Check.INDEX, () -> x.line(0, 0, bad, 0, 0));
            Check.refuses("tox " + bad, Check.INDEX, () -> x.line(0, 0, 0, bad, 0));
            Check.refuses("toy " + bad, Check.INDEX, () -> x.line(0, 0, 0, 0, bad));
        }
    }

    private static void wantsTheStreetBeforeCoordinates() {
        Check.sentence("Promise 6", "the first of these that is so");
        AddressWords x = Check.withStreets(1);
        Check.refuses("the street before x", Check.ARGUMENT, () -> x.line(1, 10000, 0, 0, 0));
        Check.refuses("the street before y", Check.ARGUMENT, () -> x.line(1, 0, 10000, 0, 0));
        Check.refuses("the street before tox", Check.ARGUMENT, () -> x.line(-1, 0, 0, -10000, 0));
        Check.refuses("the street before toy", Check.ARGUMENT, () -> x.line(-1, 0, 0, 0, -10000));
    }

    private static void changesNothingWhenRefused() {
        Check.sentence("Promise 6", "Refusals");
        AddressWords x = Check.withStreets(1);
        x.line(0, 1, 2, 4, 6);
        Check.outcome(() -> x.line(0, 10000, 9, 9, 9));
        Check.outcome(() -> x.line(0, 9, 10000, 9, 9));
        Check.outcome(() -> x.line(0, 9, 9, 10000, 9));
        Check.outcome(() -> x.line(0, 9, 9, 9, 10000));
        Check.answers("its first point", Check.point(1, 2), () -> x.post(0, 0));
        Check.answers("its other point", Check.point(4, 6), () -> x.post(0, 5));
        Check.refuses("its length", Check.INDEX, () -> x.post(0, 6));
    }
}
