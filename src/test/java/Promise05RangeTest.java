public final class Promise05RangeTest {
    private static final int LEAST = Integer.MIN_VALUE;
    private static final int GREATEST = Integer.MAX_VALUE;

    public static void main(String[] args) {
        AddressWords x = new AddressWords();
        x.street(0);
        Check.answers("the first range", 1, () -> x.range(0, 0, 1, 2));
        Check.answers("an odd house", 2, () -> x.range(0, 1, 9999, 9999));
        Check.answers("overlapping", 3, () -> x.range(0, 2, 1, 9999));
        Check.answers("the same again", 4, () -> x.range(0, 2, 1, 9999));
        Check.answers("one of both", 5, () -> x.range(0, 2, 7, 7));
        refusesWrongInput(x);
        Check.answers("the sixth range", 6, () -> x.range(0, 1, 2, 3));
        Check.refuses("a seventh range", Check.ROOM, () -> x.range(0, 0, 2, 4));
        refusesWrongInput(x);
        tellsHousesOfSides();
        Check.end();
    }

    private static void refusesWrongInput(AddressWords x) {
        Check.refuses("street -1", Check.ARGUMENT, () -> x.range(-1, 0, 1, 2));
        Check.refuses("street 1", Check.ARGUMENT, () -> x.range(1, 9, 0, 0));
        for (int side : new int[] {LEAST, -1, 3, GREATEST}) {
            Check.refuses("side " + side, Check.INDEX, () -> x.range(0, side, 1, 9));
        }
        for (int house : new int[] {LEAST, -1, 0, 10000, GREATEST}) {
            Check.refuses("low " + house, Check.INDEX, () -> x.range(0, 2, house, 9));
            Check.refuses("high " + house, Check.INDEX, () -> x.range(0, 2, 1, house));
        }
        Check.refuses("low beyond high", Check.INDEX, () -> x.range(0, 2, 5, 4));
        Check.refuses("even low beyond high", Check.INDEX, () -> x.range(0, 0, 6, 4));
        Check.refuses("no even house", Check.INDEX, () -> x.range(0, 0, 9999, 9999));
        Check.refuses("no odd house", Check.INDEX, () -> x.range(0, 1, 2, 2));
        Check.refuses("the other side between", Check.INDEX, () -> x.range(0, 0, 5, 4));
    }

    private static void tellsHousesOfSides() {
        AddressWords x = new AddressWords();
        for (int side = 0; side < 3; side++) {
            Check.namedStreet(x, 0, "a");
            x.range(side, side, 3, 6);
        }
        // The house, then what is told of streets 0 (even), 1 (odd) and 2 (both).
        int[][] told = {{1, 4, 3, 3}, {3, 4, 3, 3}, {4, 4, 3, 4}, {5, 4, 5, 5}, {6, 6, 5, 6}, {7, 6, 5, 6}};
        for (int[] row : told) {
            Check.say(x, "a " + row[0]);
            x.find(3);
            for (int side = 0; side < 3; side++) {
                int reason = row[0] == row[side + 1] ? 0 : 1;
                Check.same("house " + row[0] + " by side " + side,
                        side + " " + row[side + 1] + " " + reason + " 0 0 -1", Check.place(x, side));
            }
        }
    }
}
