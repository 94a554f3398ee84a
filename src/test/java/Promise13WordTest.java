/** Promise 13: word. */
public final class Promise13WordTest {
    public static void main(String[] args) {
        saysMore();
        takesTheLowestBytes();
        saysNothingWithN0();
        tellsHowMany();
        refusesOtherCounts();
        refusesOtherBytes();
        takesEverySign();
        refusesMoreThan40();
        clearsWhatIsFull();
        wantsTheSignsBeforeTheRoom();
        changesNothingWhenRefused();
        Check.end();
    }

    private static AddressWords withStreet(String name) {
        AddressWords x = new AddressWords();
        Check.namedStreet(x, 0, name);
        return x;
    }

    private static AddressWords withSaid(int count) {
        AddressWords x = withStreet("a");
        Check.moreSaid(x, "ab 12 yzab 12 yzab 12 yzab 12 yzab 12 yz".substring(0, count));
        return x;
    }

    private static void saysMore() {
        Check.sentence("Promise 13", "Signs more of what is said");
        AddressWords x = withStreet("abcdef");
        x.word(Check.pack("ab"), 2);
        x.word('c', 1);
        x.word(Check.pack("def 7"), 5);
        x.word(Check.pack("8"), 1);
        x.find(1);
        Check.same("one word and one number", "0 78 1 0 0 -1", Check.place(x, 0));
    }

    private static void takesTheLowestBytes() {
        Check.sentence("Promise 13", "the lowest n bytes; n 1 .. 8");
        for (int n = 1; n <= 8; n++) {
            AddressWords x = withStreet("hgfedcba".substring(8 - n));
            int count = n;
            Check.answers("n " + n, n, () -> x.word(Check.pack("hgfedcba"), count));
            x.find(1);
            Check.answers("the highest of " + n + " first", 0, () -> x.place(0, 3));
        }
        for (int n = 1; n < 8; n++) {
            AddressWords x = new AddressWords();
            int count = n;
            long others = -1L << 8 * n;
            Check.answers("other bytes above " + n, n, () -> x.word(others | Check.pack("hgfedcba") & ~others, count));
        }
    }

    private static void saysNothingWithN0() {
        Check.sentence("Promise 13", "n 0: nothing is said then");
        for (long signs : new long[] {0, -1, 'a', Long.MIN_VALUE, Long.MAX_VALUE}) {
            AddressWords x = withStreet("abc");
            Check.moreSaid(x, "zzzz 9");
            Check.answers("signs " + signs, 0, () -> x.word(signs, 0));
            Check.refuses("nothing to find by", Check.STATE, () -> x.find(1));
            Check.moreSaid(x, "abc");
            x.find(1);
            Check.same("what is said afterwards", "0 0 2 0 0 -1", Check.place(x, 0));
        }
        AddressWords bare = new AddressWords();
        Check.answers("nothing of nothing", 0, () -> bare.word(0, 0));
        Check.answers("and again", 0, () -> bare.word(0, 0));
    }

    private static void tellsHowMany() {
        Check.sentence("Promise 13", "nothing is said then: how many");
        AddressWords x = new AddressWords();
        Check.answers("3 signs", 3, () -> x.word(Check.pack("ab "), 3));
        Check.answers("8 more", 11, () -> x.word(Check.pack("  12  ab"), 8));
        Check.answers("none", 0, () -> x.word(0, 0));
        Check.answers("1 sign", 1, () -> x.word(' ', 1));
    }

    private static void refusesOtherCounts() {
        Check.sentence("Promise 13", "IndexOutOfBoundsException: n is not so");
        AddressWords x = new AddressWords();
        for (int n : Check.outside(0, 8)) {
            Check.refuses("n " + n, Check.INDEX, () -> x.word(Check.pack("aaaaaaaa"), n));
        }
    }

    private static boolean isSign(int sign) {
        return sign == ' ' || sign >= '0' && sign <= '9' || sign >= 'a' && sign <= 'z';
    }

    private static void refusesOtherBytes() {
        Check.sentence("Promise 13", "or a byte is no letter, blank or digit");
        for (int at = 0; at < 8; at++) {
            AddressWords x = new AddressWords();
            for (int sign = 0; sign < 256; sign++) {
                long packed = Check.packedWith(sign, at);
                if (!isSign(sign)) {
                    Check.refuses("byte " + sign + " at " + at, Check.INDEX, () -> x.word(packed, 8));
                }
            }
        }
    }

    private static void takesEverySign() {
        Check.sentence("Promise 13", "no letter, blank or digit");
        for (int at = 0; at < 8; at++) {
            AddressWords x = new AddressWords();
            for (int sign = 0; sign < 256; sign++) {
                long packed = Check.packedWith(sign, at);
                if (isSign(sign)) {
                    x.word(0, 0);
                    Check.answers("sign " + sign + " at " + at, 8, () -> x.word(packed, 8));
                }
            }
        }
    }

    private static void refusesMoreThan40() {
        Check.sentence("Promise 13", "UnsupportedOperationException: there would be more than 40");
        for (int before = 30; before <= 40; before++) {
            for (int n = 1; n <= 8; n++) {
                AddressWords x = withSaid(before);
                String more = "a1 b2 c3".substring(0, n);
                if (before + n > 40) {
                    Check.refuses(n + " behind " + before, Check.ROOM, () -> x.word(Check.pack(more), more.length()));
                } else {
                    Check.answers(n + " behind " + before, before + n, () -> x.word(Check.pack(more), more.length()));
                }
            }
        }
        AddressWords blanks = new AddressWords();
        Check.moreSaid(blanks, " ".repeat(40));
        Check.refuses("blanks count", Check.ROOM, () -> blanks.word(' ', 1));
    }

    private static void clearsWhatIsFull() {
        Check.sentence("Promise 13", "n 0: nothing is said then");
        AddressWords x = withSaid(40);
        Check.answers("n 0 behind 40", 0, () -> x.word(0, 0));
        Check.answers("8 behind it", 8, () -> x.word(Check.pack("abcdefgh"), 8));
        Check.moreSaid(x, " ".repeat(31));
        Check.answers("40 once more", 40, () -> x.word('a', 1));
    }

    private static void wantsTheSignsBeforeTheRoom() {
        Check.sentence("Promise 13", "the first of these that is so");
        AddressWords x = withSaid(40);
        for (int n : Check.outside(0, 8)) {
            Check.refuses("n " + n, Check.INDEX, () -> x.word(Check.pack("aaaaaaaa"), n));
        }
        Check.refuses("a byte", Check.INDEX, () -> x.word('A', 1));
        Check.refuses("the last of 8 bytes", Check.INDEX, () -> x.word(Check.pack("aaaaaaa-"), 8));
        Check.refuses("the first of 8 bytes", Check.INDEX, () -> x.word(Check.pack("-aaaaaaa"), 8));
    }

    private static void changesNothingWhenRefused() {
        Check.sentence("Promise 13", "Refusals");
        AddressWords x = withStreet("abc");
        Check.moreSaid(x, "abc");
        Check.outcome(() -> x.word('z', 9));
        Check.outcome(() -> x.word('z', -1));
        Check.outcome(() -> x.word(Check.pack("zz-"), 3));
        Check.outcome(() -> x.word(Check.pack("-zz"), 3));
        x.find(1);
        Check.same("the words that were said", "0 0 2 0 0 -1", Check.place(x, 0));
        Check.answers("one more", 4, () -> x.word(' ', 1));
        Check.moreSaid(x, " ".repeat(32));
        Check.outcome(() -> x.word(Check.pack("55555"), 5));
        x.find(1);
        Check.same("without room", "0 0 2 0 0 -1", Check.place(x, 0));
        Check.answers("the four that fit", 40, () -> x.word(Check.pack(" 123"), 4));
        x.find(1);
        Check.same("with them", "0 123 1 0 0 -1", Check.place(x, 0));
    }
}
