public final class Promise11PostTest {
    public static void main(String[] args) {
        AddressWords x = new AddressWords();
        x.street(0);
        x.line(0, 7, -8, 7, -8);
        Check.answers("without length the first point", point(7, -8), () -> x.post(0, 0));
        Check.refuses("beyond one without length", Check.INDEX, () -> x.post(0, 1));

        x.line(0, 0, 0, 30, 40);
        Check.answers("the first point", point(0, 0), () -> x.post(0, 0));
        Check.answers("rounded both ways", point(1, 1), () -> x.post(0, 1));
        Check.answers("the other point", point(30, 40), () -> x.post(0, 50));
        for (int bad : new int[] {Integer.MIN_VALUE, -1, 51, Integer.MAX_VALUE}) {
            Check.refuses("metres " + bad, Check.INDEX, () -> x.post(0, bad));
        }
        Check.refuses("street -1", Check.ARGUMENT, () -> x.post(-1, 0));
        Check.refuses("street 1", Check.ARGUMENT, () -> x.post(1, -1));

        x.line(0, 0, 0, 6, 8);
        Check.answers("at 5 of 10", point(3, 4), () -> x.post(0, 5));
        // 3.64 and 12.48 before they are rounded.
        x.line(0, 0, 0, 7, 24);
        Check.answers("at 13 of 25", point(4, 12), () -> x.post(0, 13));
        roundsHalvesUp(x);
        // The whole root 28,281 is the length that metres go by: by the true one this would be -1, -1.
        x.line(0, -9999, -9999, 9999, 9999);
        Check.answers("the whole length", point(0, 0), () -> x.post(0, 14140));
        Check.answers("the farthest point", point(9999, 9999), () -> x.post(0, 28281));
        x.line(0, 9999, 9999, -9999, -9999);
        Check.answers("the least point", 20000 + 1, () -> x.post(0, 28281));
        Check.end();
    }

    /** A length of 2 (the root of 5, and of 8) makes halves of odd ways. */
    private static void roundsHalvesUp(AddressWords x) {
        x.line(0, 0, 0, 1, 2);
        Check.answers("0.5 is 1", point(1, 1), () -> x.post(0, 1));
        x.line(0, 0, 0, -1, -2);
        Check.answers("-0.5 is 0", point(0, -1), () -> x.post(0, 1));
        x.line(0, 5, 5, 4, 3);
        Check.answers("4.5 is 5", point(5, 4), () -> x.post(0, 1));
        x.line(0, -5, -5, -3, -4);
        Check.answers("-4.5 is -4", point(-4, -4), () -> x.post(0, 1));
    }

    private static int point(int x, int y) {
        return 20000 * (x + 10000) + y + 10000;
    }
}
