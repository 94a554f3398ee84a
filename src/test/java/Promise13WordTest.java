public final class Promise13WordTest {
    public static void main(String[] args) {
        AddressWords x = new AddressWords();
        Check.namedStreet(x, 0, "abc");
        Check.answers("a sign", 1, () -> x.word('a', 1));
        Check.answers("the bytes above do not count", 3, () -> x.word(0x4100L << 8 | 'b' << 8 | 'c', 2));
        x.find(1);
        Check.same("the highest byte comes first, one word", "0 0 2 0 0 -1", Check.place(x, 0));
        Check.answers("nothing is said then", 0, () -> x.word(-1, 0));
        Check.refuses("nothing to find by", Check.STATE, () -> x.find(1));
        for (int i = 1; i < 5; i++) {
            int count = 8 * i;
            Check.answers("eight more", count, () -> x.word(Check.pack("ab 12 yz"), 8));
        }
        Check.answers("39 signs", 39, () -> x.word(Check.pack("0909 az"), 7));
        Check.refuses("41 signs", Check.ROOM, () -> x.word(Check.pack("aa"), 2));
        Check.answers("40 signs", 40, () -> x.word(' ', 1));
        Check.refuses("a 41st sign", Check.ROOM, () -> x.word('a', 1));
        Check.refuses("a byte goes before the room", Check.INDEX, () -> x.word('A', 1));
        Check.answers("nothing after all", 0, () -> x.word(0, 0));
        refusesWrongInput(x);
        Check.end();
    }

    private static void refusesWrongInput(AddressWords x) {
        for (int n : new int[] {Integer.MIN_VALUE, -1, 9, Integer.MAX_VALUE}) {
            Check.refuses("n " + n, Check.INDEX, () -> x.word(Check.pack("aaaaaaaa"), n));
        }
        for (int sign = 0; sign < 256; sign++) {
            long packed = (long) sign << 8 | 'b';
            boolean due = sign == ' ' || sign >= '0' && sign <= '9' || sign >= 'a' && sign <= 'z';
            x.word(0, 0);
            if (due) {
                Check.answers("sign " + sign, 2, () -> x.word(packed, 2));
            } else {
                Check.refuses("byte " + sign, Check.INDEX, () -> x.word(packed, 2));
                Check.answers("nothing was said", 1, () -> x.word('a', 1));
            }
        }
    }
}
