public final class Promise01NewObjectTest {
    public static void main(String[] args) {
        AddressWords x = new AddressWords();
        Check.answers("near without streets", -1, () -> x.near(0, 0));
        Check.answers("twice without streets", 0, () -> x.twice());
        Check.refuses("close without streets", Check.ARGUMENT, () -> x.close(0, true));
        Check.refuses("find with nothing said", Check.STATE, () -> x.find(1));
        Check.refuses("place before a find", Check.ARGUMENT, () -> x.place(0, 0));
        Check.answers("the first sign said", 1, () -> x.word('a', 1));
        Check.answers("find without streets", 0, () -> x.find(10));
        Check.answers("the first street", 0, () -> x.street(0));

        AddressWords other = new AddressWords();
        Check.answers("objects share no streets", -1, () -> other.near(0, 0));
        Check.refuses("objects share no words", Check.STATE, () -> other.find(1));
        Check.end();
    }
}
