public final class Promise12NearTest {
    public static void main(String[] args) {
        AddressWords x = new AddressWords();
        Check.answers("without streets", -1, () -> x.near(9999, -9999));
        refusesWrongInput(x);
        for (int i = 0; i < 4; i++) {
            x.street(0);
        }
        Check.answers("all at 0, 0", 0, () -> x.near(-5, 5));
        x.line(0, -9999, -9999, 0, 0);
        x.line(2, 10, 0, 0, 0);
        x.line(3, 10, 0, 9999, 9999);
        Check.answers("at a first point", 1, () -> x.near(0, 0));
        Check.answers("the other point does not count", 2, () -> x.near(9999, 9999));
        Check.answers("of the same the lowest", 1, () -> x.near(5, 0));
        Check.answers("a little nearer", 2, () -> x.near(6, 0));
        Check.answers("the farthest corner", 0, () -> x.near(-9999, -9999));
        x.close(0, true);
        Check.answers("a closed one too", 0, () -> x.near(-9999, -9999));
        x.line(1, 9, 9, 9, 9);
        Check.answers("both coordinates count", 1, () -> x.near(10, 5));
        Check.answers("ways, not sums of coordinates", 2, () -> x.near(3, 0));
        refusesWrongInput(x);
        Check.end();
    }

    private static void refusesWrongInput(AddressWords x) {
        for (int bad : new int[] {Integer.MIN_VALUE, -10000, 10000, Integer.MAX_VALUE}) {
            Check.refuses("x " + bad, Check.INDEX, () -> x.near(bad, 0));
            Check.refuses("y " + bad, Check.INDEX, () -> x.near(0, bad));
        }
    }
}
