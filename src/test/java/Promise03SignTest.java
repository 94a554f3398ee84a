/** Promise 3: sign. */
public final class Promise03SignTest {
    public static void main(String[] args) {
        putsLettersAtTheEnd();
        signsTheLatestName();
        takesTheLowestBytes();
        tellsHowManyTheNameHas();
        refusesUnknownStreets();
        refusesOtherCounts();
        refusesBytesThatAreNoLetters();
        takesEveryLetter();
        refusesMoreThan16();
        wantsTheFirstRefusal();
        changesNothingWhenRefused();
        Check.end();
    }

    private static void putsLettersAtTheEnd() {
        Check.sentence("Promise 3", "Letters at the end of its latest name");
        AddressWords x = Check.withStreets(1);
        Check.sign(x, 0, "az");
        Check.sign(x, 0, "q");
        Check.sign(x, 0, "bcd");
        Check.nearest(x, "azqbcd", 3, 0);
    }

    private static void signsTheLatestName() {
        Check.sentence("Promise 3", "its latest name");
        AddressWords x = Check.withStreets(2);
        Check.sign(x, 0, "first");
        x.alias(0);
        Check.sign(x, 0, "second");
        x.alias(0);
        Check.sign(x, 0, "thi");
        Check.sign(x, 1, "other");
        Check.sign(x, 0, "rd");
        for (String name : new String[] {"first", "second", "third"}) {
            Check.tells(x, name, "0 0 2 0 0 -1");
        }
        Check.tells(x, "other", "1 0 2 0 0 -1");
    }

    private static void takesTheLowestBytes() {
        Check.sentence("Promise 3", "the lowest n bytes, the highest of these first; n 1 .. 8");
        for (int n = 1; n <= 8; n++) {
            AddressWords x = Check.withStreets(1);
            int count = n;
            Check.answers("n " + n, n, () -> x.sign(0, Check.pack("hgfedcba"), count));
            Check.nearest(x, "hgfedcba".substring(8 - n), 3, 0);
        }
        for (int n = 1; n < 8; n++) {
            AddressWords x = Check.withStreets(1);
            int count = n;
            long others = -1L << 8 * n;
            Check.answers("other bytes above " + n, n, () -> x.sign(0, others | Check.pack("hgfedcba") & ~others, count));
        }
    }

    private static void tellsHowManyTheNameHas() {
        Check.sentence("Promise 3", "how many the name has");
        AddressWords x = Check.withStreets(2);
        Check.answers("3 letters", 3, () -> Check.sign(x, 0, "abc"));
        Check.answers("8 more", 11, () -> Check.sign(x, 0, "abcdefgh"));
        Check.answers("another street", 1, () -> Check.sign(x, 1, "a"));
        Check.answers("1 more", 12, () -> Check.sign(x, 0, "a"));
        x.alias(0);
        Check.answers("a new name", 2, () -> Check.sign(x, 0, "ab"));
    }

    private static void refusesUnknownStreets() {
        Check.sentence("Promise 3", "IllegalArgumentException: no such street");
        AddressWords x = Check.withStreets(2);
        for (int street : Check.outside(0, 1)) {
            Check.refuses("street " + street, Check.ARGUMENT, () -> x.sign(street, 'a', 1));
        }
        AddressWords full = Check.withStreets(30);
        for (int street : Check.outside(0, 29)) {
            Check.refuses("street " + street + " of 30", Check.ARGUMENT, () -> full.sign(street, 'a', 1));
        }
        Check.answers("street 29 of 30", 1, () -> full.sign(29, 'a', 1));
    }

    private static void refusesOtherCounts() {
        Check.sentence("Promise 3", "IndexOutOfBoundsException: n is not so");
        AddressWords x = Check.withStreets(1);
        for (int n : Check.outside(1, 8)) {
            Check.refuses("n " + n, Check.INDEX, () -> x.sign(0, Check.pack("aaaaaaaa"), n));
        }
    }

    private static void refusesBytesThatAreNoLetters() {
        Check.sentence("Promise 3", "or a byte is no letter");
        for (int at = 0; at < 8; at++) {
            AddressWords x = Check.withStreets(1);
            for (int sign = 0; sign < 256; sign++) {
                if (sign < 'a' || sign > 'z') {
                    long packed = Check.packedWith(sign, at);
                    Check.refuses("byte " + sign + " at " + at, Check.INDEX, () -> x.sign(0, packed, 8));
                }
            }
        }
    }

    private static void takesEveryLetter() {
        Check.sentence("Promise 3", "a byte is no letter");
        for (char letter = 'a'; letter <= 'z'; letter++) {
            for (int at = 0; at < 8; at++) {
                AddressWords x = Check.withStreets(1);
                long packed = Check.packedWith(letter, at);
                Check.answers("letter " + letter + " at " + at, 8, () -> x.sign(0, packed, 8));
            }
        }
    }

    private static void refusesMoreThan16() {
        Check.sentence("Promise 3", "UnsupportedOperationException: there would be more than 16");
        for (int before = 0; before <= 16; before++) {
            for (int n = 1; n <= 8; n++) {
                AddressWords x = Check.withStreets(1);
                Check.name(x, 0, "abcdefghijklmnop".substring(0, before));
                String more = "zyxwvuts".substring(0, n);
                if (before + n > 16) {
                    Check.refuses(n + " behind " + before, Check.ROOM, () -> Check.sign(x, 0, more));
                } else {
                    Check.answers(n + " behind " + before, before + n, () -> Check.sign(x, 0, more));
                }
            }
        }
        AddressWords x = Check.withStreets(1);
        Check.name(x, 0, "abcdefghijklmnop");
        x.alias(0);
        Check.answers("an alias has room of its own", 8, () -> Check.sign(x, 0, "abcdefgh"));
        Check.answers("up to 16", 16, () -> Check.sign(x, 0, "abcdefgh"));
        Check.refuses("not 17", Check.ROOM, () -> Check.sign(x, 0, "a"));
    }

    private static void wantsTheFirstRefusal() {
        Check.sentence("Promise 3", "the first of these that is so");
        AddressWords x = Check.withStreets(1);
        Check.name(x, 0, "abcdefghijklmnop");
        Check.refuses("the street before n", Check.ARGUMENT, () -> x.sign(1, 'a', 0));
        Check.refuses("the street before n 9", Check.ARGUMENT, () -> x.sign(-1, 'a', 9));
        Check.refuses("the street before a byte", Check.ARGUMENT, () -> x.sign(1, 'A', 1));
        Check.refuses("n before the room", Check.INDEX, () -> x.sign(0, Check.pack("aaaaaaaa"), 9));
        Check.refuses("n 0 before the room", Check.INDEX, () -> x.sign(0, 'a', 0));
        Check.refuses("a byte before the room", Check.INDEX, () -> x.sign(0, 'A', 1));
        Check.refuses("the last of 8 bytes before the room", Check.INDEX, () -> Check.sign(x, 0, "aaaaaaa "));
        Check.refuses("the first of 8 bytes before the room", Check.INDEX, () -> Check.sign(x, 0, " aaaaaaa"));
    }

    private static void changesNothingWhenRefused() {
        Check.sentence("Promise 3", "Refusals");
        AddressWords x = Check.withStreets(1);
        Check.name(x, 0, "abcdefghijkl");
        Check.outcome(() -> x.sign(1, 'a', 1));
        Check.outcome(() -> x.sign(0, 'a', 9));
        Check.outcome(() -> x.sign(0, 'a', 0));
        Check.outcome(() -> Check.sign(x, 0, "mno1"));
        Check.outcome(() -> Check.sign(x, 0, "1mno"));
        Check.outcome(() -> Check.sign(x, 0, "mnopq"));
        Check.nearest(x, "abcdefghijkl", 3, 0);
        Check.answers("the four that still fit", 16, () -> Check.sign(x, 0, "mnop"));
        Check.outcome(() -> Check.sign(x, 0, "q"));
        Check.nearest(x, "abcdefghijklmnop", 3, 0);
    }
}
