import java.util.Random;

/**
 * Long runs of calls, the same ones each time, are compared with the slow model call by call. A step
 * makes one call or more, so runs go beyond the 512 calls that the document promises: the class
 * counts no calls, and full tables are reached this way.
 */
public final class ModelTest {
    private static final int RUNS = 150;
    private static final int STEPS = 512;

    private final Random random;
    private final AddressWords x = new AddressWords();
    private final Model model = new Model();
    private final int letterKinds;
    private final int wildOneIn;
    private int streets = 0;

    private ModelTest(long seed) {
        random = new Random(seed);
        letterKinds = 1 + random.nextInt(5);
        wildOneIn = 5 + random.nextInt(60);
    }

    public static void main(String[] args) {
        for (int run = 0; run < RUNS; run++) {
            ModelTest test = new ModelTest(run);
            for (int step = 0; step < STEPS; step++) {
                test.call("run " + run + " step " + step + ": ");
            }
        }
        Check.end();
    }

    private int number(int low, int high) {
        if (random.nextInt(wildOneIn) == 0) {
            int[] wild = {Integer.MIN_VALUE, Integer.MAX_VALUE, low - 1, high + 1, low, high, random.nextInt()};
            return wild[random.nextInt(wild.length)];
        }
        return low + random.nextInt(high - low + 1);
    }

    private int streetNumber() {
        return number(0, Math.max(0, streets - 1));
    }

    private int coordinate() {
        return random.nextBoolean() ? number(-9999, 9999) : number(-3, 3);
    }

    private int house() {
        return random.nextInt(4) == 0 ? number(1, 9999) : number(1, 60);
    }

    private long letters() {
        long packed = random.nextInt(wildOneIn) == 0 ? random.nextLong() : 0;
        for (int i = 0; i < 8; i++) {
            packed = packed << 8 | 'a' + random.nextInt(letterKinds);
        }
        return random.nextInt(wildOneIn) == 0 ? packed ^ random.nextInt(256) : packed;
    }

    private long signs() {
        long packed = letters();
        for (int i = 0; i < 8; i++) {
            if (random.nextInt(3) == 0) {
                long sign = " 0123456789".charAt(random.nextInt(11));
                packed = packed & ~(255L << 8 * i) | sign << 8 * i;
            }
        }
        return packed;
    }

    private void call(String where) {
        switch (random.nextInt(20)) {
            case 0: case 1: callStreet(where); break;
            case 2: case 3: case 4: callNames(where); break;
            case 5: case 6: callRange(where); break;
            case 7: callLine(where); break;
            case 8: callClose(where); break;
            case 9: callLandmark(where); break;
            case 10: case 11: callMeet(where); break;
            case 12: case 13: callMap(where); break;
            case 14: case 15: callWord(where); break;
            default: callFind(where); break;
        }
    }

    private void callStreet(String where) {
        int area = number(0, 3);
        String due = Check.outcome(() -> model.street(area));
        Check.same(where + "street " + area, due, Check.outcome(() -> x.street(area)));
        if (due.matches("[0-9]+")) {
            streets++;
        }
    }

    private void callNames(String where) {
        int street = streetNumber();
        long letters = letters();
        int n = number(1, 8);
        Check.same(where + "sign " + street + " " + letters + " " + n,
                Check.outcome(() -> model.sign(street, letters, n)), Check.outcome(() -> x.sign(street, letters, n)));
        if (random.nextInt(3) == 0) {
            Check.same(where + "alias " + street,
                    Check.outcome(() -> model.alias(street)), Check.outcome(() -> x.alias(street)));
        }
        Check.same(where + "twice", Check.outcome(() -> model.twice()), Check.outcome(() -> x.twice()));
    }

    private void callRange(String where) {
        int street = streetNumber();
        int side = number(0, 2);
        int low = house();
        int high = random.nextInt(3) == 0 ? house() : low + random.nextInt(9) - 1;
        Check.same(where + "range " + street + " " + side + " " + low + " " + high,
                Check.outcome(() -> model.range(street, side, low, high)),
                Check.outcome(() -> x.range(street, side, low, high)));
    }

    private void callLine(String where) {
        int street = streetNumber();
        int fromX = coordinate();
        int fromY = coordinate();
        int toX = coordinate();
        int toY = coordinate();
        Check.same(where + "line " + street + " " + fromX + " " + fromY + " " + toX + " " + toY,
                Check.outcome(() -> model.line(street, fromX, fromY, toX, toY)),
                Check.outcome(() -> x.line(street, fromX, fromY, toX, toY)));
    }

    private void callClose(String where) {
        int street = streetNumber();
        boolean on = random.nextBoolean();
        Check.same(where + "close " + street + " " + on,
                Check.outcome(() -> model.close(street, on)), Check.outcome(() -> x.close(street, on)));
    }

    private void callLandmark(String where) {
        int street = streetNumber();
        int house = house();
        long letters = letters();
        int n = number(1, 8);
        Check.same(where + "landmark " + street + " " + house + " " + letters + " " + n,
                Check.outcome(() -> model.landmark(street, house, letters, n)),
                Check.outcome(() -> x.landmark(street, house, letters, n)));
    }

    private void callMeet(String where) {
        int street = streetNumber();
        int other = streetNumber();
        int metres = random.nextBoolean() ? 0 : number(0, 5);
        int otherMetres = random.nextBoolean() ? 0 : number(0, 5);
        Check.same(where + "meet " + street + " " + other + " " + metres + " " + otherMetres,
                Check.outcome(() -> model.meet(street, other, metres, otherMetres)),
                Check.outcome(() -> x.meet(street, other, metres, otherMetres)));
        Check.same(where + "corner " + other + " " + street,
                Check.outcome(() -> model.corner(other, street)), Check.outcome(() -> x.corner(other, street)));
    }

    private void callMap(String where) {
        int street = streetNumber();
        int metres = random.nextBoolean() ? number(0, 5) : number(0, 28281);
        Check.same(where + "post " + street + " " + metres,
                Check.outcome(() -> model.post(street, metres)), Check.outcome(() -> x.post(street, metres)));
        int atX = coordinate();
        int atY = coordinate();
        Check.same(where + "near " + atX + " " + atY,
                Check.outcome(() -> model.near(atX, atY)), Check.outcome(() -> x.near(atX, atY)));
        Check.same(where + "corner " + street + " 0",
                Check.outcome(() -> model.corner(street, 0)), Check.outcome(() -> x.corner(street, 0)));
    }

    private void callWord(String where) {
        long signs = signs();
        int n = random.nextInt(6) == 0 ? 0 : number(0, 8);
        Check.same(where + "word " + signs + " " + n,
                Check.outcome(() -> model.word(signs, n)), Check.outcome(() -> x.word(signs, n)));
    }

    private void callFind(String where) {
        int k = number(1, 10);
        Check.same(where + "find " + k, Check.outcome(() -> model.find(k)), Check.outcome(() -> x.find(k)));
        callPlaces(where + "find " + k + ", ");
        if (random.nextInt(4) == 0) {
            call(where);
            callPlaces(where + "behind it, ");
        }
    }

    private void callPlaces(String where) {
        for (int i = 0; i <= 10; i++) {
            for (int what = -1; what <= 6; what++) {
                int asked = i;
                int of = what;
                Check.same(where + "place " + i + " " + what,
                        Check.outcome(() -> model.place(asked, of)), Check.outcome(() -> x.place(asked, of)));
            }
        }
    }
}
