public final class Promise08LandmarkTest {
    public static void main(String[] args) {
        AddressWords x = new AddressWords();
        Check.namedStreet(x, 6, "mill");
        Check.namedStreet(x, 7, "park");
        refusesWrongInput(x);
        Check.answers("the first", 0, () -> Check.landmark(x, 1, 9999, "tower"));
        Check.answers("a street's name is free", 1, () -> Check.landmark(x, 1, 1, "mill"));
        Check.refuses("the same name", Check.STATE, () -> Check.landmark(x, 0, 2, "tower"));
        Check.answers("the start of a name", 2, () -> Check.landmark(x, 0, 2, "towe"));
        Check.answers("the bytes above do not count", 3, () -> x.landmark(0, 2, 'Z' << 8 | 'q', 1));
        Check.refuses("so the name is q", Check.STATE, () -> x.landmark(0, 2, 'q', 1));
        Check.say(x, "tower 55");
        x.find(1);
        Check.same("a landmark's own house", "1 9999 3 0 7 0", Check.place(x, 0));
        for (int i = 4; i < 20; i++) {
            int number = i;
            Check.answers("landmark " + i, i, () -> Check.landmark(x, 0, 5, "aaaaaaa" + (char) ('a' + number)));
        }
        Check.refuses("a 21st landmark", Check.ROOM, () -> Check.landmark(x, 0, 5, "new"));
        Check.refuses("the name goes before the room", Check.STATE, () -> Check.landmark(x, 0, 5, "q"));
        refusesWrongInput(x);
        Check.end();
    }

    private static void refusesWrongInput(AddressWords x) {
        Check.refuses("street -1", Check.ARGUMENT, () -> Check.landmark(x, -1, 1, "new"));
        Check.refuses("street 2", Check.ARGUMENT, () -> x.landmark(2, 0, 0, 0));
        for (int house : new int[] {Integer.MIN_VALUE, -1, 0, 10000, Integer.MAX_VALUE}) {
            Check.refuses("house " + house, Check.INDEX, () -> Check.landmark(x, 0, house, "new"));
        }
        for (int n : new int[] {Integer.MIN_VALUE, -1, 0, 9, Integer.MAX_VALUE}) {
            Check.refuses("n " + n, Check.INDEX, () -> x.landmark(0, 1, Check.pack("newnewne"), n));
        }
        for (String name : new String[] {"ne ", "n1", "New", "{", "`", "\u00e4", "\u0000a"}) {
            Check.refuses("the name " + name, Check.INDEX, () -> Check.landmark(x, 0, 1, name));
        }
    }
}
