public final class Promise07CloseTest {
    public static void main(String[] args) {
        AddressWords x = new AddressWords();
        Check.namedStreet(x, 4, "main");
        Check.namedStreet(x, 5, "park");
        x.range(0, 2, 5, 9);
        Check.landmark(x, 0, 3, "mill");
        Check.accepts("close", () -> x.close(0, true));
        tells(x, "main 7", "0 7 10 0 4 -1");
        tells(x, "main 4", "0 5 11 0 4 -1");
        tells(x, "main", "0 0 12 0 4 -1");
        tells(x, "mill", "0 3 13 0 4 0");
        tells(x, "park", "1 0 2 0 5 -1");
        Check.accepts("close again", () -> x.close(0, true));
        tells(x, "main", "0 0 12 0 4 -1");
        Check.accepts("open", () -> x.close(0, false));
        tells(x, "main 7", "0 7 0 0 4 -1");
        tells(x, "mill", "0 3 3 0 4 0");
        Check.refuses("street -1", Check.ARGUMENT, () -> x.close(-1, true));
        Check.refuses("street 2", Check.ARGUMENT, () -> x.close(2, false));
        Check.end();
    }

    private static void tells(AddressWords x, String signs, String due) {
        Check.say(x, signs);
        x.find(1);
        Check.same(signs, due, Check.place(x, 0));
    }
}
