public final class Promise04AliasTest {
    public static void main(String[] args) {
        AddressWords x = new AddressWords();
        x.street(3);
        Check.refuses("street -1", Check.ARGUMENT, () -> x.alias(-1));
        Check.refuses("street 1", Check.ARGUMENT, () -> x.alias(1));
        Check.refuses("the first name is empty", Check.STATE, () -> x.alias(0));
        Check.sign(x, 0, "one");
        Check.answers("a second name", 2, () -> x.alias(0));
        Check.refuses("the second name is empty", Check.STATE, () -> x.alias(0));
        Check.say(x, "zzz");
        x.find(1);
        Check.same("an empty alias does not count", "0 0 2 3 3 -1", Check.place(x, 0));
        Check.sign(x, 0, "two");
        Check.answers("a third name", 3, () -> x.alias(0));
        Check.refuses("empty goes before the room", Check.STATE, () -> x.alias(0));
        Check.sign(x, 0, "three");
        Check.refuses("a fourth name", Check.ROOM, () -> x.alias(0));
        for (String name : new String[] {"one", "two", "three"}) {
            Check.say(x, name);
            x.find(1);
            Check.same("the name " + name, "0 0 2 0 3 -1", Check.place(x, 0));
        }
        Check.end();
    }
}
