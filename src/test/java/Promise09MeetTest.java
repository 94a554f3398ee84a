/** Promise 9: meet. */
public final class Promise09MeetTest {
    public static void main(String[] args) {
        meetsAtMetresOfBoth();
        refusesUnknownStreets();
        refusesMetresBelowZero();
        refusesMetresBeyondALength();
        takesMetresAtTheEnds();
        refusesOneStreet();
        refusesStreetsThatMeetAlready();
        refusesMoreThan40();
        wantsTheStreetsFirst();
        wantsTheFirstRefusal();
        changesNothingWhenRefused();
        keepsMetresThatWereTold();
        Check.end();
    }

    /** Streets 0 to 3 are 50, 10, 0 and 50 metres long. */
    private static AddressWords fourStreets() {
        AddressWords x = Check.withStreets(4);
        x.line(0, 0, 0, 30, 40);
        x.line(1, 0, 0, 0, 10);
        x.line(3, 0, 0, 50, 0);
        return x;
    }

    /** Ten streets without length have 45 pairs: the first 40 of them meet. */
    private static AddressWords withFortyCorners() {
        AddressWords x = Check.withStreets(10);
        int made = 0;
        for (int i = 0; i < 10; i++) {
            for (int j = 0; j < i && made < 40; j++) {
                x.meet(i, j, 0, 0);
                made++;
            }
        }
        return x;
    }

    private static void meetsAtMetresOfBoth() {
        Check.sentence("Promise 9", "Two streets meet, at metres of the first and of the second one.");
        AddressWords x = fourStreets();
        Check.accepts("meet", () -> x.meet(0, 1, 41, 7));
        Check.accepts("the higher one first", () -> x.meet(3, 0, 12, 34));
        Check.answers("metres of the first", 41, () -> x.corner(0, 1));
        Check.answers("metres of the second", 7, () -> x.corner(1, 0));
        Check.answers("metres of the higher one", 12, () -> x.corner(3, 0));
        Check.answers("metres of the lower one", 34, () -> x.corner(0, 3));
    }

    private static void refusesUnknownStreets() {
        Check.sentence("Promise 9", "IllegalArgumentException: no such streets");
        AddressWords x = fourStreets();
        for (int street : Check.outside(0, 3)) {
            Check.refuses("street " + street, Check.ARGUMENT, () -> x.meet(street, 0, 0, 0));
            Check.refuses("other " + street, Check.ARGUMENT, () -> x.meet(0, street, 0, 0));
        }
        AddressWords full = Check.withStreets(30);
        Check.refuses("street 30 of 30", Check.ARGUMENT, () -> full.meet(30, 0, 0, 0));
        Check.refuses("other 30 of 30", Check.ARGUMENT, () -> full.meet(0, 30, 0, 0));
        Check.accepts("streets 28 and 29 of 30", () -> full.meet(28, 29, 0, 0));
    }

    private static void refusesMetresBelowZero() {
        Check.sentence("Promise 9", "IndexOutOfBoundsException: metres below 0");
        AddressWords x = fourStreets();
        for (int metres : new int[] {Integer.MIN_VALUE, -65536, -256, -1}) {
            Check.refuses("metres " + metres, Check.INDEX, () -> x.meet(0, 1, metres, 0));
            Check.refuses("other metres " + metres, Check.INDEX, () -> x.meet(0, 1, 0, metres));
            Check.refuses("both " + metres, Check.INDEX, () -> x.meet(0, 1, metres, metres));
        }
    }

    private static void refusesMetresBeyondALength() {
        Check.sentence("Promise 9", "or beyond a length");
        AddressWords x = fourStreets();
        Check.refuses("51 of 50", Check.INDEX, () -> x.meet(0, 1, 51, 0));
        Check.refuses("51 of 50 of the other", Check.INDEX, () -> x.meet(1, 0, 0, 51));
        Check.refuses("11 of 10", Check.INDEX, () -> x.meet(1, 0, 11, 0));
        Check.refuses("11 of 10 of the other", Check.INDEX, () -> x.meet(0, 1, 0, 11));
        Check.refuses("1 of 0", Check.INDEX, () -> x.meet(2, 1, 1, 0));
        Check.refuses("1 of 0 of the other", Check.INDEX, () -> x.meet(1, 2, 0, 1));
        for (int metres : new int[] {50 + 256, 50 + 65536, Integer.MAX_VALUE}) {
            Check.refuses("metres " + metres, Check.INDEX, () -> x.meet(0, 3, metres, 0));
            Check.refuses("other metres " + metres, Check.INDEX, () -> x.meet(0, 3, 0, metres));
        }
        x.line(0, 0, 0, 3, 4);
        Check.refuses("6 of a new length of 5", Check.INDEX, () -> x.meet(0, 3, 6, 0));
    }

    private static void takesMetresAtTheEnds() {
        Check.sentence("Promise 9", "metres below 0 or beyond a length");
        AddressWords x = fourStreets();
        Check.accepts("both whole lengths", () -> x.meet(0, 1, 50, 10));
        Check.answers("50 of 50", 50, () -> x.corner(0, 1));
        Check.answers("10 of 10", 10, () -> x.corner(1, 0));
        Check.accepts("0 of a length of 0", () -> x.meet(2, 3, 0, 50));
        Check.answers("0 of 0", 0, () -> x.corner(2, 3));
        Check.accepts("0 of both", () -> x.meet(0, 3, 0, 0));
        Check.answers("0 of 50", 0, () -> x.corner(0, 3));
        x.line(2, -9999, -9999, 9999, 9999);
        Check.accepts("the longest", () -> x.meet(2, 1, 28281, 0));
        Check.answers("28,281 of 28,281", 28281, () -> x.corner(2, 1));
    }

    private static void refusesOneStreet() {
        Check.sentence("Promise 9", "IllegalStateException: they are one");
        AddressWords x = fourStreets();
        for (int i = 0; i < 4; i++) {
            int street = i;
            Check.refuses("street " + i + " and itself", Check.STATE, () -> x.meet(street, street, 0, 0));
        }
        Check.refuses("at other metres", Check.STATE, () -> x.meet(0, 0, 1, 50));
    }

    private static void refusesStreetsThatMeetAlready() {
        Check.sentence("Promise 9", "or meet already");
        AddressWords x = fourStreets();
        x.meet(0, 1, 5, 6);
        x.meet(3, 0, 0, 0);
        Check.refuses("again", Check.STATE, () -> x.meet(0, 1, 5, 6));
        Check.refuses("at other metres", Check.STATE, () -> x.meet(0, 1, 7, 8));
        Check.refuses("the other way", Check.STATE, () -> x.meet(1, 0, 6, 5));
        Check.refuses("at metres 0", Check.STATE, () -> x.meet(3, 0, 1, 1));
        Check.refuses("at metres 0 the other way", Check.STATE, () -> x.meet(0, 3, 1, 1));
        Check.accepts("both with a third one", () -> x.meet(1, 3, 1, 1));
    }

    private static void refusesMoreThan40() {
        Check.sentence("Promise 9", "UnsupportedOperationException: there are 40 corners");
        AddressWords x = Check.withStreets(10);
        int made = 0;
        for (int i = 0; i < 10; i++) {
            for (int j = 0; j < i; j++) {
                int street = i;
                int other = j;
                if (made < 40) {
                    Check.accepts("corner " + made, () -> x.meet(street, other, 0, 0));
                } else {
                    Check.refuses("corner " + made, Check.ROOM, () -> x.meet(street, other, 0, 0));
                }
                made++;
            }
        }
    }

    private static void wantsTheStreetsFirst() {
        Check.sentence("Promise 9", "the first of these that is so");
        AddressWords x = withFortyCorners();
        Check.refuses("the street before metres", Check.ARGUMENT, () -> x.meet(10, 0, -1, 0));
        Check.refuses("the street before other metres", Check.ARGUMENT, () -> x.meet(10, 0, 0, 1));
        Check.refuses("the other before metres", Check.ARGUMENT, () -> x.meet(0, 10, 1, 0));
        Check.refuses("the other before other metres", Check.ARGUMENT, () -> x.meet(0, -1, 0, -1));
        Check.refuses("the streets before being one", Check.ARGUMENT, () -> x.meet(10, 10, 0, 0));
        Check.refuses("the streets before the room", Check.ARGUMENT, () -> x.meet(9, 10, 0, 0));
    }

    private static void wantsTheFirstRefusal() {
        Check.sentence("Promise 9", "the first of these that is so");
        AddressWords full = withFortyCorners();
        Check.refuses("metres before being one", Check.INDEX, () -> full.meet(0, 0, 1, 0));
        Check.refuses("other metres before being one", Check.INDEX, () -> full.meet(0, 0, 0, -1));
        Check.refuses("metres before meeting", Check.INDEX, () -> full.meet(0, 1, 1, 0));
        Check.refuses("other metres before meeting", Check.INDEX, () -> full.meet(1, 0, 0, -1));
        Check.refuses("metres before the room", Check.INDEX, () -> full.meet(9, 8, 1, 0));
        Check.refuses("other metres before the room", Check.INDEX, () -> full.meet(9, 8, 0, 1));
        Check.refuses("being one before the room", Check.STATE, () -> full.meet(9, 9, 0, 0));
        Check.refuses("meeting before the room", Check.STATE, () -> full.meet(0, 1, 0, 0));
        Check.refuses("meeting before the room, the other way", Check.STATE, () -> full.meet(1, 0, 0, 0));
        AddressWords x = fourStreets();
        Check.refuses("metres before being one, with room", Check.INDEX, () -> x.meet(1, 1, 11, 11));
    }

    private static void changesNothingWhenRefused() {
        Check.sentence("Promise 9", "Refusals");
        AddressWords x = fourStreets();
        x.meet(0, 1, 5, 6);
        Check.outcome(() -> x.meet(0, 1, 7, 8));
        Check.outcome(() -> x.meet(1, 0, 7, 8));
        Check.answers("the metres that were told", 5, () -> x.corner(0, 1));
        Check.answers("the other metres that were told", 6, () -> x.corner(1, 0));
        Check.outcome(() -> x.meet(0, 3, 51, 0));
        Check.outcome(() -> x.meet(0, 3, 0, 51));
        Check.answers("no corner at wrong metres", -1, () -> x.corner(0, 3));
        Check.outcome(() -> x.meet(3, 3, 1, 1));
        Check.answers("no corner with itself", -1, () -> x.corner(3, 3));
        AddressWords full = withFortyCorners();
        Check.outcome(() -> full.meet(9, 8, 0, 0));
        Check.answers("no corner without room", -1, () -> full.corner(9, 8));
        refusedOnesTakeNoRoom();
    }

    private static void refusedOnesTakeNoRoom() {
        AddressWords x = Check.withStreets(10);
        for (int i = 0; i < 41; i++) {
            Check.outcome(() -> x.meet(0, 0, 0, 0));
            Check.outcome(() -> x.meet(0, 1, 1, 0));
        }
        Check.accepts("room behind refused ones", () -> x.meet(0, 1, 0, 0));
    }

    /** The document tells no change of a corner, so a new line leaves it. */
    private static void keepsMetresThatWereTold() {
        Check.sentence("Promise 9", "at metres of the first and of the second one");
        AddressWords x = fourStreets();
        x.meet(0, 1, 50, 10);
        x.line(0, 0, 0, 0, 0);
        Check.answers("metres of the first", 50, () -> x.corner(0, 1));
        Check.answers("metres of the second", 10, () -> x.corner(1, 0));
    }
}
