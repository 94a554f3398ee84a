public final class Promise03SignTest {
    public static void main(String[] args) {
        AddressWords x = new AddressWords();
        x.street(0);
        x.street(0);
        Check.answers("a..z end", 2, () -> Check.sign(x, 0, "az"));
        Check.answers("the bytes above do not count", 3, () -> x.sign(0, 0x7f00L << 8 | 'q', 1));
        Check.say(x, "azq");
        x.find(1);
        Check.same("the highest byte comes first", "0 0 2 0 0 -1", Check.place(x, 0));

        Check.answers("8 letters", 8, () -> Check.sign(x, 1, "abcdefgh"));
        Check.answers("7 more", 15, () -> Check.sign(x, 1, "abcdefg"));
        Check.refuses("17 letters", Check.ROOM, () -> Check.sign(x, 1, "ab"));
        Check.answers("the 16th letter", 16, () -> Check.sign(x, 1, "h"));
        Check.refuses("a 17th letter", Check.ROOM, () -> Check.sign(x, 1, "a"));
        x.alias(1);
        Check.answers("the latest name is signed", 1, () -> Check.sign(x, 1, "z"));
        refusesWrongInput(x);
        Check.end();
    }

    private static void refusesWrongInput(AddressWords x) {
        Check.refuses("street -1", Check.ARGUMENT, () -> x.sign(-1, 'a', 1));
        Check.refuses("street 2", Check.ARGUMENT, () -> x.sign(2, 'a', 1));
        Check.refuses("the street goes first", Check.ARGUMENT, () -> x.sign(2, 0, 0));
        for (int n : new int[] {Integer.MIN_VALUE, -1, 0, 9, Integer.MAX_VALUE}) {
            Check.refuses("n " + n, Check.INDEX, () -> x.sign(0, Check.pack("aaaaaaaa"), n));
        }
        for (int sign = 0; sign < 256; sign++) {
            long packed = (long) sign << 8 | 'b';
            AddressWords fresh = new AddressWords();
            fresh.street(0);
            if (sign >= 'a' && sign <= 'z') {
                Check.answers("letter " + sign, 2, () -> fresh.sign(0, packed, 2));
            } else {
                Check.refuses("byte " + sign, Check.INDEX, () -> fresh.sign(0, packed, 2));
                Check.answers("nothing was signed", 1, () -> fresh.sign(0, 'a', 1));
            }
        }
        Check.name(x, 1, "aaaaaaaaaaaaaaa");
        Check.refuses("a byte goes before the room", Check.INDEX, () -> x.sign(1, 'A', 1));
    }
}
