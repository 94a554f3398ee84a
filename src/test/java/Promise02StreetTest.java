public final class Promise02StreetTest {
    public static void main(String[] args) {
        AddressWords x = new AddressWords();
        refusesWrongAreas(x);
        for (int i = 0; i < 30; i++) {
            int area = i % 10;
            Check.answers("street " + i, i, () -> x.street(area));
        }
        Check.refuses("a 31st street", Check.ROOM, () -> x.street(0));
        refusesWrongAreas(x);
        Check.say(x, "a");
        x.find(10);
        for (int i = 0; i < 10; i++) {
            Check.same("a new street's place", i + " 0 2 99 " + i + " -1", Check.place(x, i));
        }
        Check.end();
    }

    private static void refusesWrongAreas(AddressWords x) {
        Check.refuses("area -1", Check.INDEX, () -> x.street(-1));
        Check.refuses("area 10", Check.INDEX, () -> x.street(10));
        Check.refuses("the least area", Check.INDEX, () -> x.street(Integer.MIN_VALUE));
        Check.refuses("the greatest area", Check.INDEX, () -> x.street(Integer.MAX_VALUE));
    }
}
