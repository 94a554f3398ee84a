/** Promise 2: street. */
public final class Promise02StreetTest {
    public static void main(String[] args) {
        countsFromZero();
        refusesOtherAreas();
        takesEveryArea();
        refusesMoreThan30();
        wantsTheAreaBeforeTheRoom();
        changesNothingWhenRefused();
        Check.end();
    }

    private static void countsFromZero() {
        Check.sentence("Promise 2", "One more street: its number.");
        AddressWords x = new AddressWords();
        for (int i = 0; i < 30; i++) {
            Check.answers("street " + i, i, () -> x.street(3));
        }
    }

    private static void refusesOtherAreas() {
        Check.sentence("Promise 2", "IndexOutOfBoundsException: no such area");
        for (int area : Check.outside(0, 9)) {
            Check.refuses("area " + area, Check.INDEX, () -> new AddressWords().street(area));
        }
    }

    private static void takesEveryArea() {
        Check.sentence("Promise 2", "no such area");
        AddressWords x = new AddressWords();
        for (int i = 0; i < 10; i++) {
            int area = i;
            Check.answers("area " + i, i, () -> x.street(area));
        }
        Check.say(x, "a");
        x.find(10);
        for (int i = 0; i < 10; i++) {
            Check.same("the place in area " + i, i + " 0 2 99 " + i + " -1", Check.place(x, i));
        }
    }

    private static void refusesMoreThan30() {
        Check.sentence("Promise 2", "UnsupportedOperationException: there are 30");
        AddressWords x = Check.withStreets(29);
        Check.answers("the 30th", 29, () -> x.street(0));
        for (int i = 0; i < 10; i++) {
            int area = i;
            Check.refuses("a 31st of area " + i, Check.ROOM, () -> x.street(area));
        }
    }

    private static void wantsTheAreaBeforeTheRoom() {
        Check.sentence("Promise 2", "the first of these that is so");
        AddressWords full = Check.withStreets(30);
        for (int area : Check.outside(0, 9)) {
            Check.refuses("area " + area + " of a 31st", Check.INDEX, () -> full.street(area));
        }
    }

    private static void changesNothingWhenRefused() {
        Check.sentence("Promise 2", "Refusals");
        AddressWords x = new AddressWords();
        Check.outcome(() -> x.street(10));
        Check.answers("near behind a refused first street", -1, () -> x.near(0, 0));
        Check.answers("the number behind a refused one", 0, () -> x.street(0));
        AddressWords full = Check.withStreets(30);
        Check.outcome(() -> full.street(0));
        Check.outcome(() -> full.street(-1));
        Check.refuses("street 30 of a full one", Check.ARGUMENT, () -> full.close(30, true));
        Check.accepts("street 29 of a full one", () -> full.close(29, true));
    }
}
