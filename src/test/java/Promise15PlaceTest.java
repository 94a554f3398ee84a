import java.util.function.Consumer;

public final class Promise15PlaceTest {
    public static void main(String[] args) {
        AddressWords x = found();
        Check.same("a landmark", "1 77 3 0 9 0", Check.place(x, 0));
        Check.same("a street", "0 5 0 1 2 -1", Check.place(x, 1));
        Check.same("told again", "1 77 3 0 9 0", Check.place(x, 0));
        for (int i : new int[] {Integer.MIN_VALUE, -1, 3, 10, Integer.MAX_VALUE}) {
            Check.refuses("place " + i, Check.ARGUMENT, () -> x.place(i, 0));
            Check.refuses("the place goes first", Check.ARGUMENT, () -> x.place(i, 6));
        }
        for (int what : new int[] {Integer.MIN_VALUE, -1, 6, Integer.MAX_VALUE}) {
            Check.refuses("what " + what, Check.INDEX, () -> x.place(0, what));
        }
        x.find(1);
        Check.refuses("a smaller find", Check.ARGUMENT, () -> x.place(1, 0));
        forgetsBehindChanges();
        keepsBehindOthers();
        Check.end();
    }

    /** Two streets, a landmark, and a find of all three: the landmark is the nearest. */
    private static AddressWords found() {
        AddressWords x = new AddressWords();
        Check.namedStreet(x, 2, "mile");
        Check.namedStreet(x, 9, "qqqqqqqq");
        x.range(0, 1, 5, 9);
        Check.landmark(x, 1, 77, "mill");
        Check.say(x, "mill 5");
        x.find(10);
        return x;
    }

    private static void forgets(String call, Consumer<AddressWords> change) {
        AddressWords x = found();
        change.accept(x);
        Check.refuses("place behind " + call, Check.ARGUMENT, () -> x.place(0, 0));
    }

    private static void forgetsBehindChanges() {
        forgets("street", x -> x.street(0));
        forgets("sign", x -> x.sign(0, 'a', 1));
        forgets("alias", x -> x.alias(0));
        forgets("range", x -> x.range(0, 0, 1, 9));
        forgets("line", x -> x.line(0, 1, 1, 2, 2));
        forgets("close", x -> x.close(0, true));
        forgets("landmark", x -> x.landmark(0, 1, 'a', 1));
        forgets("word", x -> x.word('a', 1));
        forgets("word with nothing", x -> x.word(0, 0));
    }

    private static void keeps(String call, Consumer<AddressWords> other) {
        AddressWords x = found();
        Check.outcome(() -> other.accept(x));
        Check.same("place behind " + call, "1 77 3 0 9 0", Check.place(x, 0));
    }

    private static void keepsBehindOthers() {
        keeps("meet", x -> x.meet(0, 1, 0, 0));
        keeps("corner", x -> x.corner(0, 1));
        keeps("post", x -> x.post(0, 0));
        keeps("near", x -> x.near(0, 0));
        keeps("twice", x -> x.twice());
        keeps("a refused street", x -> x.street(10));
        keeps("a refused sign", x -> x.sign(0, 'A', 1));
        keeps("a refused alias", x -> x.alias(2));
        keeps("a refused range", x -> x.range(0, 0, 1, 1));
        keeps("a refused line", x -> x.line(0, 0, 0, 0, 10000));
        keeps("a refused close", x -> x.close(2, true));
        keeps("a refused landmark", x -> Check.landmark(x, 0, 1, "mill"));
        keeps("a refused word", x -> x.word('A', 1));
        keeps("a refused find", x -> x.find(0));
    }
}
