/** Promise 7: close. */
public final class Promise07CloseTest {
    public static void main(String[] args) {
        closes();
        opensAgain();
        maySetWhatIsSet();
        refusesUnknownStreets();
        Check.end();
    }

    private static AddressWords twoStreets() {
        AddressWords x = new AddressWords();
        Check.namedStreet(x, 4, "main");
        Check.namedStreet(x, 5, "park");
        x.range(0, 2, 5, 9);
        Check.landmark(x, 0, 3, "mill");
        return x;
    }

    private static void closes() {
        Check.sentence("Promise 7", "It is closed, or not.");
        AddressWords x = twoStreets();
        Check.tells(x, "main", "0 0 2 0 4 -1");
        Check.accepts("close", () -> x.close(0, true));
        Check.tells(x, "main 7", "0 7 10 0 4 -1");
        Check.tells(x, "main 4", "0 5 11 0 4 -1");
        Check.tells(x, "main", "0 0 12 0 4 -1");
        Check.tells(x, "mill", "0 3 13 0 4 0");
        Check.tells(x, "park", "1 0 2 0 5 -1");
    }

    private static void opensAgain() {
        Check.sentence("Promise 7", "closed, or not");
        AddressWords x = twoStreets();
        x.close(0, true);
        x.close(1, true);
        Check.accepts("open", () -> x.close(0, false));
        Check.tells(x, "main 7", "0 7 0 0 4 -1");
        Check.tells(x, "main 4", "0 5 1 0 4 -1");
        Check.tells(x, "main", "0 0 2 0 4 -1");
        Check.tells(x, "mill", "0 3 3 0 4 0");
        Check.tells(x, "park", "1 0 12 0 5 -1");
    }

    private static void maySetWhatIsSet() {
        Check.sentence("Promise 7", "It is closed, or not.");
        AddressWords x = twoStreets();
        Check.accepts("an open one is opened", () -> x.close(0, false));
        Check.tells(x, "main", "0 0 2 0 4 -1");
        x.close(0, true);
        Check.accepts("a closed one is closed", () -> x.close(0, true));
        Check.tells(x, "main", "0 0 12 0 4 -1");
    }

    private static void refusesUnknownStreets() {
        Check.sentence("Promise 7", "IllegalArgumentException: no such street");
        AddressWords x = twoStreets();
        for (int street : Check.outside(0, 1)) {
            Check.refuses("closing " + street, Check.ARGUMENT, () -> x.close(street, true));
            Check.refuses("opening " + street, Check.ARGUMENT, () -> x.close(street, false));
        }
        Check.tells(x, "main", "0 0 2 0 4 -1");
        Check.tells(x, "park", "1 0 2 0 5 -1");
        AddressWords full = Check.withStreets(30);
        Check.refuses("street 30 of 30", Check.ARGUMENT, () -> full.close(30, true));
        Check.accepts("street 29 of 30", () -> full.close(29, true));
    }
}
