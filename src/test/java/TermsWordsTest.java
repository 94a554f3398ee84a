/** The terms of what is said, and of distances; each names the promise whose calls show it. */
public final class TermsWordsTest {
    public static void main(String[] args) {
        atMost40SignsAreSaid();
        wordsAreLettersOnEnd();
        numbersAreDigitsOnEnd();
        fourDigitsCount();
        moreThanFourDigitsAre9999();
        theHouseIsTheFirstNumber();
        zeroIsNoneSaid();
        countsLettersPutInTakenOutOrChanged();
        countsTheLeastNumber();
        countsASwapForOne();
        alignsAsOptimalStringAlignmentHasIt();
        takesTheLeastOfAllWords();
        takesTheLeastOfAllNames();
        takesALandmarksName();
        leavesOutEmptyNames();
        is99WithoutWords();
        is99WithoutNames();
        Check.end();
    }

    private static AddressWords withStreet(String name) {
        AddressWords x = new AddressWords();
        Check.namedStreet(x, 0, name);
        return x;
    }

    private static void distance(String name, String signs, int due) {
        Check.nearest(withStreet(name), signs, 3, due);
    }

    private static void house(String signs, int due) {
        Check.nearest(withStreet("a"), signs, 1, due);
    }

    private static void atMost40SignsAreSaid() {
        Check.sentence("Terms, promise 13", "THE WORDS said (at most 40 letters a .. z, blanks, digits)");
        AddressWords x = new AddressWords();
        Check.say(x, "az09 az09 az09 az09 az09 az09 az09 az09 ");
        Check.refuses("a 41st sign", Check.ROOM, () -> x.word(' ', 1));
        x.word(0, 0);
        for (char sign : new char[] {'`', '{', '/', ':', 'A', 'Z', '!', 31, '\t', '\0', (char) 0xe4, (char) 0xa0}) {
            Check.refuses("sign " + (int) sign, Check.INDEX, () -> x.word(sign, 1));
        }
        distance("abcdefghijklmnop", "abcdefghijklmnopabcdefghijklmnopabcdefgh", 24);
        distance("h", "                                       h", 0);
        house("                                    9876", 9876);
    }

    private static void wordsAreLettersOnEnd() {
        Check.sentence("Terms, promise 14", "a WORD is letters on end");
        distance("abc", "abc", 0);
        distance("abc", " abc ", 0);
        distance("abc", "12abc34", 0);
        distance("abc", "ab7c", 1);
        distance("abc", "ab c", 1);
        distance("abc", "a b c", 2);
        distance("abcd", "ab cd", 2);
        distance("abcd", "ab1cd", 2);
        distance("z", "a b c d e f g h i j k l m n o p q r s z", 0);
        distance("z", "a1b1c1d1e1f1g1h1i1j1k1l1m1n1o1p1q1r1s1z1", 0);
        distance("z", "1a1b1c1d1e1f1g1h1i1j1k1l1m1n1o1p1q1r1s1z", 0);
    }

    private static void numbersAreDigitsOnEnd() {
        Check.sentence("Terms, promise 14", "a NUMBER digits on end");
        house("7", 7);
        house("a7", 7);
        house("7a", 7);
        house("a7b8", 7);
        house("1 2", 1);
        house("12 34", 12);
        house("a 9 ", 9);
        house("  0123", 123);
    }

    private static void fourDigitsCount() {
        Check.sentence("Terms, promise 14", "at most 4 count");
        house("a 1", 1);
        house("a 12", 12);
        house("a 123", 123);
        house("a 1234", 1234);
        house("a 9999", 9999);
        house("a 0001", 1);
        house("a 0100", 100);
        house("1234 5", 1234);
        house("1234a5", 1234);
    }

    private static void moreThanFourDigitsAre9999() {
        Check.sentence("Terms, promise 14", "more than 4 is 9,999");
        house("a 12345", 9999);
        house("a 10000", 9999);
        house("a 99999", 9999);
        house("a 00000", 9999);
        house("a 00001", 9999);
        house("a 65537", 9999);
        house("a 4294967297", 9999);
        house("a 18446744073709551617", 9999);
        house("0000000000000000000000000000000000000001", 9999);
        house("9999999999999999999999999999999999999999", 9999);
        house("a 10005 7", 9999);
        AddressWords x = withStreet("a");
        x.range(0, 0, 3, 9999);
        Check.tells(x, "a 12345", "0 9998 1 0 0 -1");
        x.range(0, 1, 9999, 9999);
        Check.tells(x, "a 12345", "0 9999 0 0 0 -1");
    }

    private static void theHouseIsTheFirstNumber() {
        Check.sentence("Terms, promise 14", "The HOUSE is the first number, if there is one");
        house("a 5 22", 5);
        house("5 a 22", 5);
        house("5a22", 5);
        house("1 22222", 1);
        house("22 1", 22);
        house("a", 0);
        house("a b", 0);
    }

    private static void zeroIsNoneSaid() {
        Check.sentence("Terms, promise 14", "(0 is none said)");
        for (String zero : new String[] {"a 0", "a 00", "a 000", "a 0000", "0a", "a 0 5", "a 0000 5", "0 5 a"}) {
            Check.tells(withStreet("a"), zero, "0 0 2 0 0 -1");
        }
    }

    private static void countsLettersPutInTakenOutOrChanged() {
        Check.sentence("Terms, promise 14", "the least number of letters put in, taken out or changed");
        distance("abc", "abxc", 1);
        distance("abc", "xabc", 1);
        distance("abc", "abcx", 1);
        distance("abc", "ab", 1);
        distance("abc", "ac", 1);
        distance("abc", "bc", 1);
        distance("abc", "xbc", 1);
        distance("abc", "axc", 1);
        distance("abc", "abx", 1);
        distance("a", "b", 1);
        distance("a", "a", 0);
        distance("abc", "xyz", 3);
    }

    private static void countsTheLeastNumber() {
        Check.sentence("Terms, promise 14", "that make one of the other");
        distance("kitten", "sitting", 3);
        distance("sitting", "kitten", 3);
        distance("abc", "cab", 2);
        distance("abcdef", "xabcde", 2);
        distance("a", "bbbbbbbb", 8);
        distance("abcdefghijklmnop", "abcdefghijklmnop", 0);
        distance("abcdefghijklmnop", "bcdefghijklmnopa", 2);
        distance("aaaaaaaaaaaaaaaa", "b", 16);
        distance("aaaaaaaaaaaaaaaa", "a", 15);
        distance("a", "bbbbbbbbbbbbbbbbbbbbbbbbbbbbbbbbbbbbbbbb", 40);
        distance("b", "bbbbbbbbbbbbbbbbbbbbbbbbbbbbbbbbbbbbbbbb", 39);
        distance("aaaaaaaaaaaaaaaa", "bbbbbbbbbbbbbbbbbbbbbbbbbbbbbbbbbbbbbbbb", 40);
    }

    private static void countsASwapForOne() {
        Check.sentence("Terms, promise 14", "with a swap of two side by side for one as well");
        distance("ab", "ba", 1);
        distance("abc", "acb", 1);
        distance("abc", "bac", 1);
        distance("abc", "cba", 2);
        distance("abcd", "badc", 2);
        distance("abcdefghijklmnop", "badcfehgjilknmpo", 8);
        distance("abcdefghijklmnop", "abcdefghijklmnpo", 1);
        distance("abcdefghijklmnop", "bacdefghijklmnop", 1);
        distance("abcde", "acbed", 2);
        distance("aab", "aba", 1);
    }

    /** No letters are put in between two that are swapped, nor is a swapped one changed again. */
    private static void alignsAsOptimalStringAlignmentHasIt() {
        Check.sentence("Terms, promise 14", "as optimal string alignment has it");
        distance("ca", "abc", 3);
        distance("abc", "ca", 3);
        distance("ab", "bca", 3);
        distance("abcd", "bcda", 2);
        distance("abc", "bca", 2);
    }

    private static void takesTheLeastOfAllWords() {
        Check.sentence("Terms, promise 14", "it is the least of all words said");
        distance("abc", "x  abd 5 zzzz", 1);
        distance("abc", "zzzz abd", 1);
        distance("abc", "abd zzzz", 1);
        distance("abc", "zzzz abc yyyy", 0);
        distance("abc", "abcd abcde abxde", 1);
    }

    private static void takesTheLeastOfAllNames() {
        Check.sentence("Terms, promise 14", "with all its names");
        AddressWords x = withStreet("first");
        Check.alias(x, 0, "second");
        Check.alias(x, 0, "third");
        for (String said : new String[] {"firsd", "seconds", "hird"}) {
            Check.nearest(x, said, 3, 1);
            Check.nearest(x, "qqqqqqqqqq " + said, 3, 1);
            Check.nearest(x, said + " qqqqqqqqqq", 3, 1);
        }
    }

    private static void takesALandmarksName() {
        Check.sentence("Terms, promise 14", "Of a street (a landmark)");
        AddressWords x = new AddressWords();
        Check.namedStreet(x, 0, "qqqqqqqq");
        Check.landmark(x, 0, 5, "mill");
        Check.landmark(x, 0, 6, "abcdefgh");
        Check.tells(x, "zzz mil zzz", "0 5 3 1 0 0");
        Check.tells(x, "mlil", "0 5 3 1 0 0");
        Check.tells(x, "abcdefgh", "0 6 3 0 0 1");
        Check.tells(x, "xxxxxxxxxxxx", "0 0 2 12 0 -1", "0 5 3 12 0 0", "0 6 3 12 0 1");
    }

    private static void leavesOutEmptyNames() {
        Check.sentence("Terms, promise 14", "names that are not empty");
        AddressWords x = withStreet("aaaaaa");
        x.alias(0);
        Check.nearest(x, "z", 3, 6);
        Check.name(x, 0, "zzz");
        Check.nearest(x, "z", 3, 2);
        x.alias(0);
        Check.nearest(x, "z", 3, 2);
    }

    private static void is99WithoutWords() {
        Check.sentence("Terms, promise 14", "without words, or such names, 99");
        distance("abc", " ", 99);
        distance("abc", "123", 99);
        distance("abc", " 1 2 3 ", 99);
        AddressWords x = withStreet("abc");
        Check.landmark(x, 0, 5, "mill");
        Check.tells(x, "7", "0 7 1 99 0 -1", "0 5 3 99 0 0");
    }

    private static void is99WithoutNames() {
        Check.sentence("Terms, promise 14", "or such names, 99");
        distance("", "abc", 99);
        distance("", "a", 99);
        distance("", " ", 99);
        AddressWords x = withStreet("");
        Check.landmark(x, 0, 5, "mill");
        Check.tells(x, "zzzzzzzzzzzzzzzzzzzzzzzzzzzzzzzzzzzzzzzz", "0 5 3 40 0 0", "0 0 2 99 0 -1");
    }
}
