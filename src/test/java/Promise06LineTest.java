public final class Promise06LineTest {
    public static void main(String[] args) {
        AddressWords x = new AddressWords();
        x.street(0);
        Check.answers("a new street's line", 200010000, () -> x.post(0, 0));
        Check.refuses("a new street's length", Check.INDEX, () -> x.post(0, 1));
        Check.answers("a root", 5, () -> x.line(0, 1, 2, 4, 6));
        Check.answers("backwards", 5, () -> x.line(0, 4, 6, 1, 2));
        Check.answers("rounded down", 1, () -> x.line(0, 0, 0, 1, 1));
        Check.answers("just below a root", 2, () -> x.line(0, 0, 0, 2, 2));
        Check.answers("the longest", 28281, () -> x.line(0, -9999, 9999, 9999, -9999));
        Check.answers("along an axis", 19998, () -> x.line(0, -9999, 0, 9999, 0));
        Check.answers("a point", 0, () -> x.line(0, 7, 7, 7, 7));
        Check.answers("the latest line holds", 20000 * 10007 + 10007, () -> x.post(0, 0));
        for (int i = 1; i < 3000; i++) {
            int wide = i * 7919 % 19999 - 9999;
            int high = i * 104729 % 19999 - 9999;
            Check.answers("length to " + wide + ", " + high, slowRoot(wide, high), () -> x.line(0, 0, 0, wide, high));
        }
        refusesWrongInput(x);
        Check.end();
    }

    private static int slowRoot(int wide, int high) {
        long square = (long) wide * wide + (long) high * high;
        long root = 0;
        while ((root + 1) * (root + 1) <= square) {
            root++;
        }
        return (int) root;
    }

    private static void refusesWrongInput(AddressWords x) {
        x.line(0, 1, 2, 4, 6);
        for (int bad : new int[] {Integer.MIN_VALUE, -10000, 10000, Integer.MAX_VALUE}) {
            Check.refuses("x " + bad, Check.INDEX, () -> x.line(0, bad, 0, 0, 0));
            Check.refuses("y " + bad, Check.INDEX, () -> x.line(0, 0, bad, 0, 0));
            Check.refuses("tox " + bad, Check.INDEX, () -> x.line(0, 0, 0, bad, 0));
            Check.refuses("toy " + bad, Check.INDEX, () -> x.line(0, 0, 0, 0, bad));
        }
        Check.answers("a refused line changes nothing", 20000 * 10004 + 10006, () -> x.post(0, 5));
        Check.refuses("street -1", Check.ARGUMENT, () -> x.line(-1, 0, 0, 0, 0));
        Check.refuses("street 1", Check.ARGUMENT, () -> x.line(1, 10000, 0, 0, 0));
    }
}
