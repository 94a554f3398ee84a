public final class Promise09MeetTest {
    public static void main(String[] args) {
        AddressWords x = new AddressWords();
        for (int i = 0; i < 4; i++) {
            x.street(0);
        }
        x.line(0, 0, 0, 30, 40);
        x.line(1, 0, 0, 0, 10);
        Check.accepts("both at their ends", () -> x.meet(0, 1, 50, 10));
        Check.answers("metres of the first", 50, () -> x.corner(0, 1));
        Check.answers("metres of the second", 10, () -> x.corner(1, 0));
        Check.accepts("streets without length", () -> x.meet(2, 3, 0, 0));
        Check.refuses("beyond a street without length", Check.INDEX, () -> x.meet(2, 1, 1, 0));
        refusesWrongInput(x);
        keepsFortyCorners();
        keepsPlacesAndMetres(x);
        Check.end();
    }

    private static void refusesWrongInput(AddressWords x) {
        Check.refuses("street -1", Check.ARGUMENT, () -> x.meet(-1, 0, 0, 0));
        Check.refuses("other -1", Check.ARGUMENT, () -> x.meet(0, -1, 0, 0));
        Check.refuses("other 4", Check.ARGUMENT, () -> x.meet(0, 4, 51, 0));
        Check.refuses("streets 4", Check.ARGUMENT, () -> x.meet(4, 4, 0, 0));
        for (int metres : new int[] {Integer.MIN_VALUE, -1, 51, Integer.MAX_VALUE}) {
            Check.refuses("metres " + metres, Check.INDEX, () -> x.meet(0, 2, metres, 0));
            Check.refuses("other metres " + metres, Check.INDEX, () -> x.meet(2, 0, 0, metres));
        }
        Check.refuses("one street", Check.STATE, () -> x.meet(0, 0, 1, 1));
        Check.refuses("metres go before one street", Check.INDEX, () -> x.meet(0, 0, 1, 51));
        Check.refuses("they meet", Check.STATE, () -> x.meet(0, 1, 0, 0));
        Check.refuses("they meet the other way", Check.STATE, () -> x.meet(1, 0, 0, 0));
        Check.answers("refused ones change nothing", -1, () -> x.corner(0, 2));
    }

    private static void keepsFortyCorners() {
        AddressWords x = new AddressWords();
        for (int i = 0; i < 10; i++) {
            x.street(0);
        }
        int made = 0;
        for (int i = 0; i < 10; i++) {
            for (int j = 0; j < i; j++) {
                int street = i;
                int other = j;
                if (made < 40) {
                    Check.accepts("corner " + made, () -> x.meet(street, other, 0, 0));
                } else {
                    Check.refuses("corner " + made, Check.ROOM, () -> x.meet(street, other, 0, 0));
                }
                made++;
            }
        }
        Check.refuses("meeting goes before the room", Check.STATE, () -> x.meet(0, 1, 0, 0));
        Check.refuses("metres go before the room", Check.INDEX, () -> x.meet(9, 8, 1, 0));
    }

    private static void keepsPlacesAndMetres(AddressWords x) {
        Check.say(x, "a");
        x.find(1);
        x.meet(0, 2, 1, 0);
        Check.same("a corner is no street, landmark or word", "0 0 2 99 0 -1", Check.place(x, 0));
        x.line(0, 0, 0, 0, 0);
        Check.answers("a new line leaves the corner", 50, () -> x.corner(0, 1));
    }
}
