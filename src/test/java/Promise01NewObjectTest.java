/** Promise 1: a new object. */
public final class Promise01NewObjectTest {
    public static void main(String[] args) {
        hasNoStreets();
        hasNoLandmarksCornersOrPlaces();
        hasNoWordsSaid();
        sharesNothingWithAnother();
        Check.end();
    }

    private static void hasNoStreets() {
        Check.sentence("Promise 1", "No streets");
        AddressWords x = new AddressWords();
        Check.answers("near", -1, () -> x.near(0, 0));
        Check.answers("twice", 0, () -> x.twice());
        Check.refuses("sign", Check.ARGUMENT, () -> x.sign(0, 'a', 1));
        Check.refuses("alias", Check.ARGUMENT, () -> x.alias(0));
        Check.refuses("range", Check.ARGUMENT, () -> x.range(0, 2, 1, 1));
        Check.refuses("line", Check.ARGUMENT, () -> x.line(0, 0, 0, 0, 0));
        Check.refuses("close", Check.ARGUMENT, () -> x.close(0, true));
        Check.refuses("landmark", Check.ARGUMENT, () -> x.landmark(0, 1, 'a', 1));
        Check.refuses("meet", Check.ARGUMENT, () -> x.meet(0, 1, 0, 0));
        Check.refuses("corner", Check.ARGUMENT, () -> x.corner(0, 1));
        Check.refuses("post", Check.ARGUMENT, () -> x.post(0, 0));
        x.word('a', 1);
        Check.answers("find", 0, () -> x.find(10));
        Check.answers("the first street", 0, () -> x.street(0));
    }

    private static void hasNoLandmarksCornersOrPlaces() {
        Check.sentence("Promise 1", "A new object");
        AddressWords x = new AddressWords();
        Check.refuses("place", Check.ARGUMENT, () -> x.place(0, 0));
        x.street(0);
        x.street(0);
        Check.answers("corner", -1, () -> x.corner(0, 1));
        Check.answers("the first landmark", 0, () -> x.landmark(0, 1, 'a', 1));
    }

    private static void hasNoWordsSaid() {
        Check.sentence("Promise 1", "no words said");
        AddressWords x = new AddressWords();
        Check.refuses("find", Check.STATE, () -> x.find(1));
        Check.answers("the first sign", 1, () -> x.word('a', 1));
    }

    private static void sharesNothingWithAnother() {
        Check.sentence("Promise 1", "A new object");
        AddressWords x = new AddressWords();
        Check.namedStreet(x, 0, "a");
        Check.landmark(x, 0, 1, "a");
        Check.say(x, "a");
        x.find(2);
        AddressWords other = new AddressWords();
        Check.answers("no streets of another", -1, () -> other.near(0, 0));
        Check.refuses("no words of another", Check.STATE, () -> other.find(1));
        Check.refuses("no places of another", Check.ARGUMENT, () -> other.place(0, 0));
        other.street(9);
        Check.answers("no landmarks of another", 0, () -> Check.landmark(other, 0, 1, "a"));
        Check.same("the first one's places stay", "0 0 2 0 0 -1", Check.place(x, 0));
    }
}
