/** The terms of streets, landmarks and corners; each names the promise whose calls show it. */
public final class TermsStreetsTest {
    public static void main(String[] args) {
        thereAreAtMost30Streets();
        areasGoFrom0To9();
        thereAreUpTo3Names();
        namesHave1To16Letters();
        thereAreUpTo6Ranges();
        sidesAreEvenOddOrBoth();
        housesGoFrom1To9999();
        rangesMayOverlap();
        pointsGoFromMinus9999To9999();
        linesAreAPointAtFirst();
        metresGoFromTheFirstPointOn();
        lengthsAreRoundedDown();
        streetsMayBeClosed();
        thereAreAtMost20Landmarks();
        landmarksAreAHouseOnAStreet();
        cornersAreAtMetresOfEach();
        Check.end();
    }

    private static void thereAreAtMost30Streets() {
        Check.sentence("Terms, promise 2", "STREETS 0, 1, .. (at most 30)");
        AddressWords x = new AddressWords();
        for (int i = 0; i < 30; i++) {
            int number = i;
            Check.refuses("street " + i + " is not yet there", Check.ARGUMENT, () -> x.close(number, false));
            Check.answers("street " + i, i, () -> x.street(0));
            Check.accepts("street " + i + " is there", () -> x.close(number, false));
        }
        Check.refuses("a 31st street", Check.ROOM, () -> x.street(0));
    }

    private static void areasGoFrom0To9() {
        Check.sentence("Terms, promise 2", "an AREA (0 .. 9)");
        AddressWords x = new AddressWords();
        Check.refuses("area -1", Check.INDEX, () -> x.street(-1));
        Check.refuses("area 10", Check.INDEX, () -> x.street(10));
        Check.answers("area 0", 0, () -> x.street(0));
        Check.answers("area 9", 1, () -> x.street(9));
        Check.tells(x, "a", "0 0 2 99 0 -1", "1 0 2 99 9 -1");
    }

    private static void thereAreUpTo3Names() {
        Check.sentence("Terms, promise 4", "up to 3 NAMES (the first one, and aliases");
        AddressWords x = new AddressWords();
        Check.namedStreet(x, 0, "one");
        Check.answers("a second", 2, () -> x.alias(0));
        Check.name(x, 0, "two");
        Check.answers("a third", 3, () -> x.alias(0));
        Check.name(x, 0, "three");
        Check.refuses("a fourth", Check.ROOM, () -> x.alias(0));
        for (String name : new String[] {"one", "two", "three"}) {
            Check.nearest(x, name, 3, 0);
        }
    }

    private static void namesHave1To16Letters() {
        Check.sentence("Terms, promise 3", "1 .. 16 letters a .. z each");
        String letters = "azbycxdwevfugtha";
        for (int length = 1; length <= 16; length++) {
            AddressWords x = new AddressWords();
            Check.namedStreet(x, 0, letters.substring(0, length));
            Check.nearest(x, letters.substring(0, length), 3, 0);
            Check.answers("an alias behind " + length + " letters", 2, () -> x.alias(0));
        }
        AddressWords x = new AddressWords();
        Check.namedStreet(x, 0, letters);
        Check.refuses("a 17th letter", Check.ROOM, () -> x.sign(0, 'a', 1));
        x.street(0);
        for (char sign : new char[] {'`', '{', 'A', 'Z', '0', ' ', '\0', (char) 0xe4}) {
            Check.refuses("sign " + (int) sign, Check.INDEX, () -> x.sign(1, sign, 1));
        }
        Check.answers("a", 1, () -> x.sign(1, 'a', 1));
        Check.answers("z", 2, () -> x.sign(1, 'z', 1));
    }

    private static void thereAreUpTo6Ranges() {
        Check.sentence("Terms, promise 5", "up to 6 RANGES of houses");
        AddressWords x = Check.withStreets(1);
        Check.sign(x, 0, "a");
        for (int i = 1; i <= 6; i++) {
            int house = 100 * i;
            Check.answers("range " + i, i, () -> x.range(0, 2, house, house));
        }
        Check.refuses("a seventh", Check.ROOM, () -> x.range(0, 2, 1, 9));
        for (int i = 1; i <= 6; i++) {
            Check.tells(x, "a " + 100 * i, "0 " + 100 * i + " 0 0 0 -1");
        }
    }

    private static void sidesAreEvenOddOrBoth() {
        Check.sentence("Terms, promise 5", "a SIDE (0 even, 1 odd numbers, 2 both)");
        AddressWords x = Check.withStreets(3);
        for (int side = 0; side < 3; side++) {
            Check.sign(x, side, "a");
            x.range(side, side, 3, 6);
        }
        // The house, then what is told of streets 0 (even), 1 (odd) and 2 (both).
        int[][] told = {{1, 4, 3, 3}, {3, 4, 3, 3}, {4, 4, 3, 4}, {5, 4, 5, 5}, {6, 6, 5, 6}, {7, 6, 5, 6}};
        for (int[] row : told) {
            String[] due = new String[3];
            for (int side = 0; side < 3; side++) {
                int reason = row[0] == row[side + 1] ? 0 : 1;
                due[side] = side + " " + row[side + 1] + " " + reason + " 0 0 -1";
            }
            Check.tells(x, "a " + row[0], due);
        }
    }

    private static void housesGoFrom1To9999() {
        Check.sentence("Terms, promise 5", "from a number to another one (1 .. 9,999)");
        AddressWords x = Check.withStreets(1);
        Check.sign(x, 0, "a");
        Check.refuses("from 0", Check.INDEX, () -> x.range(0, 2, 0, 9999));
        Check.refuses("to 10,000", Check.INDEX, () -> x.range(0, 2, 1, 10000));
        Check.answers("from 1 to 9,999", 1, () -> x.range(0, 2, 1, 9999));
        for (int house : new int[] {1, 2, 5000, 9998, 9999}) {
            Check.tells(x, "a " + house, "0 " + house + " 0 0 0 -1");
        }
    }

    private static void rangesMayOverlap() {
        Check.sentence("Terms, promise 5", "ranges of a street may overlap");
        AddressWords x = Check.withStreets(1);
        Check.sign(x, 0, "a");
        Check.answers("the first", 1, () -> x.range(0, 2, 10, 20));
        Check.answers("the same", 2, () -> x.range(0, 2, 10, 20));
        Check.answers("across its end", 3, () -> x.range(0, 0, 15, 25));
        Check.answers("inside", 4, () -> x.range(0, 1, 12, 14));
        Check.answers("around", 5, () -> x.range(0, 1, 1, 99));
        Check.tells(x, "a 24", "0 24 0 0 0 -1");
        Check.tells(x, "a 25", "0 25 0 0 0 -1");
        Check.tells(x, "a 26", "0 25 1 0 0 -1");
        Check.tells(x, "a 16", "0 16 0 0 0 -1");
    }

    private static void pointsGoFromMinus9999To9999() {
        Check.sentence("Terms, promise 6", "a line from a POINT to another one (-9,999 .. 9,999");
        AddressWords x = Check.withStreets(1);
        Check.refuses("x -10,000", Check.INDEX, () -> x.line(0, -10000, 0, 0, 0));
        Check.refuses("y 10,000", Check.INDEX, () -> x.line(0, 0, 10000, 0, 0));
        Check.refuses("tox 10,000", Check.INDEX, () -> x.line(0, 0, 0, 10000, 0));
        Check.refuses("toy -10,000", Check.INDEX, () -> x.line(0, 0, 0, 0, -10000));
        Check.answers("across the map", 28281, () -> x.line(0, -9999, 9999, 9999, -9999));
        Check.answers("its first point", Check.point(-9999, 9999), () -> x.post(0, 0));
        Check.answers("its other point", Check.point(9999, -9999), () -> x.post(0, 28281));
    }

    private static void linesAreAPointAtFirst() {
        Check.sentence("Terms, promise 11", "both of them the same at first: 0, 0");
        AddressWords x = Check.withStreets(2);
        Check.answers("the first point", Check.point(0, 0), () -> x.post(0, 0));
        Check.refuses("no length", Check.INDEX, () -> x.post(0, 1));
        Check.refuses("no metres to meet at", Check.INDEX, () -> x.meet(0, 1, 1, 0));
        x.line(0, 1, 0, 0, 0);
        Check.answers("nearest to 0, 0", 1, () -> x.near(0, 0));
    }

    private static void metresGoFromTheFirstPointOn() {
        Check.sentence("Terms, promise 11", "METRES go along it from the first one on");
        AddressWords x = Check.withStreets(2);
        x.line(0, 10, 20, 13, 24);
        x.line(1, 13, 24, 10, 20);
        Check.answers("0 of a line", Check.point(10, 20), () -> x.post(0, 0));
        Check.answers("5 of a line", Check.point(13, 24), () -> x.post(0, 5));
        Check.answers("0 of it the other way", Check.point(13, 24), () -> x.post(1, 0));
        Check.answers("5 of it the other way", Check.point(10, 20), () -> x.post(1, 5));
    }

    private static void lengthsAreRoundedDown() {
        Check.sentence("Terms, promise 6",
                "its LENGTH is the whole root of the square of its length, rounded down");
        AddressWords x = Check.withStreets(1);
        int[][] due = {{0, 0, 0}, {1, 1, 1}, {2, 2, 2}, {3, 4, 5}, {12, 12, 16}, {5, 5, 7}, {6930, 6930, 9800}};
        for (int[] one : due) {
            Check.answers("to " + one[0] + ", " + one[1], one[2], () -> x.line(0, 0, 0, one[0], one[1]));
            Check.accepts("at its length", () -> x.post(0, one[2]));
            Check.refuses("beyond its length", Check.INDEX, () -> x.post(0, one[2] + 1));
        }
    }

    private static void streetsMayBeClosed() {
        Check.sentence("Terms, promise 7", "It may be CLOSED.");
        AddressWords x = new AddressWords();
        Check.namedStreet(x, 0, "a");
        Check.tells(x, "a", "0 0 2 0 0 -1");
        x.close(0, true);
        Check.tells(x, "a", "0 0 12 0 0 -1");
        x.close(0, false);
        Check.tells(x, "a", "0 0 2 0 0 -1");
    }

    private static void thereAreAtMost20Landmarks() {
        Check.sentence("Terms, promise 8", "LANDMARKS 0, 1, .. (at most 20)");
        AddressWords x = Check.withStreets(2);
        for (int i = 0; i < 20; i++) {
            int number = i;
            Check.answers("landmark " + i, i, () -> Check.landmark(x, number % 2, 1, "" + (char) ('a' + number)));
        }
        Check.refuses("a 21st", Check.ROOM, () -> Check.landmark(x, 0, 1, "z"));
        for (int i = 0; i < 20; i++) {
            Check.tells(x, "" + (char) ('a' + i), i % 2 + " 1 3 0 0 " + i);
        }
    }

    private static void landmarksAreAHouseOnAStreet() {
        Check.sentence("Terms, promise 8", "are a house on a street, and have a name");
        AddressWords x = new AddressWords();
        x.street(3);
        x.street(7);
        x.range(1, 0, 2, 8);
        Check.landmark(x, 1, 55, "tower");
        Check.landmark(x, 0, 66, "mill");
        Check.tells(x, "tower", "1 55 3 0 7 0");
        Check.tells(x, "mill", "0 66 3 0 3 1");
    }

    private static void cornersAreAtMetresOfEach() {
        Check.sentence("Terms, promise 9", "CORNERS: two streets may be told to meet, at metres of each.");
        AddressWords x = Check.withStreets(2);
        x.line(0, 0, 0, 9, 0);
        x.line(1, 0, 0, 0, 4);
        Check.answers("before", -1, () -> x.corner(0, 1));
        x.meet(0, 1, 9, 3);
        Check.answers("metres of the first", 9, () -> x.corner(0, 1));
        Check.answers("metres of the second", 3, () -> x.corner(1, 0));
    }
}
