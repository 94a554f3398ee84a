/** Promise 10: corner. */
public final class Promise10CornerTest {
    public static void main(String[] args) {
        tellsMetresOfTheFirst();
        tellsTheFortieth();
        tellsWhenTheyDoNotMeet();
        refusesUnknownStreets();
        Check.end();
    }

    private static AddressWords fourStreets() {
        AddressWords x = Check.withStreets(4);
        for (int i = 0; i < 4; i++) {
            x.line(i, 0, 0, 100, 0);
        }
        x.meet(0, 1, 5, 6);
        x.meet(2, 0, 7, 8);
        x.meet(3, 1, 0, 100);
        return x;
    }

    private static void tellsMetresOfTheFirst() {
        Check.sentence("Promise 10", "At what metres of a street the other one meets it");
        AddressWords x = fourStreets();
        Check.answers("the first told", 5, () -> x.corner(0, 1));
        Check.answers("the other way", 6, () -> x.corner(1, 0));
        Check.answers("the higher one told first", 7, () -> x.corner(2, 0));
        Check.answers("the lower one of these", 8, () -> x.corner(0, 2));
        Check.answers("at its first point", 0, () -> x.corner(3, 1));
        Check.answers("at its other point", 100, () -> x.corner(1, 3));
    }

    private static void tellsTheFortieth() {
        Check.sentence("Promise 10", "At what metres of a street the other one meets it");
        AddressWords x = Check.withStreets(21);
        for (int i = 0; i < 21; i++) {
            x.line(i, 0, 0, 100, 0);
        }
        for (int i = 1; i <= 20; i++) {
            x.meet(0, i, i, 100 - i);
            x.meet(i, i % 20 + 1, 30 + i, 60 + i);
        }
        for (int i = 1; i <= 20; i++) {
            int street = i;
            Check.answers("of 0 and " + i, i, () -> x.corner(0, street));
            Check.answers("of " + i + " and 0", 100 - i, () -> x.corner(street, 0));
            Check.answers("of " + i + " and its next", 30 + i, () -> x.corner(street, street % 20 + 1));
            Check.answers("of its next and " + i, 60 + i, () -> x.corner(street % 20 + 1, street));
        }
    }

    private static void tellsWhenTheyDoNotMeet() {
        Check.sentence("Promise 10", "-1 when they don't");
        AddressWords x = fourStreets();
        int[][] apart = {{0, 3}, {3, 0}, {1, 2}, {2, 1}, {2, 3}, {3, 2}, {0, 0}, {1, 1}, {2, 2}, {3, 3}};
        for (int[] pair : apart) {
            Check.answers(pair[0] + " and " + pair[1], -1, () -> x.corner(pair[0], pair[1]));
        }
        AddressWords without = Check.withStreets(2);
        Check.answers("without corners", -1, () -> without.corner(0, 1));
    }

    private static void refusesUnknownStreets() {
        Check.sentence("Promise 10", "IllegalArgumentException: no such streets");
        AddressWords x = fourStreets();
        for (int bad : Check.outside(0, 3)) {
            Check.refuses("street " + bad, Check.ARGUMENT, () -> x.corner(bad, 0));
            Check.refuses("other " + bad, Check.ARGUMENT, () -> x.corner(0, bad));
            Check.refuses("both " + bad, Check.ARGUMENT, () -> x.corner(bad, bad));
        }
        AddressWords full = Check.withStreets(30);
        Check.refuses("street 30 of 30", Check.ARGUMENT, () -> full.corner(30, 0));
        Check.refuses("other 30 of 30", Check.ARGUMENT, () -> full.corner(0, 30));
        Check.answers("streets 28 and 29 of 30", -1, () -> full.corner(28, 29));
    }
}
