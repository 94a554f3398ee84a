import java.util.Random;
import java.util.function.IntSupplier;

/**
 * Runs of 512 calls, the most that the document promises of one object, are compared with the slow
 * model call by call. They are the same runs each time; each likes some calls more than others, so
 * that full tables are reached in some of them.
 */
public final class ModelTest {
    private static final int RUNS = 400;
    private static final int CALLS = 512;
    private static final int[] LIKINGS = {1, 1, 2, 4, 12};

    private final int run;
    private final Random random;
    private final AddressWords x = new AddressWords();
    private final Model model = new Model();
    private final int letterKinds;
    private final int wildOneIn;
    private final int[] liking = new int[11];
    private int streets = 0;
    private int calls = 0;

    private ModelTest(int run) {
        this.run = run;
        random = new Random(run);
        letterKinds = 1 + random.nextInt(5);
        wildOneIn = 5 + random.nextInt(60);
        for (int i = 0; i < liking.length; i++) {
            liking[i] = LIKINGS[random.nextInt(LIKINGS.length)];
        }
    }

    public static void main(String[] args) {
        Check.sentence("Promises 1 to 16", "An object is used for at most 512 calls after it has been made");
        for (int run = 0; run < RUNS; run++) {
            ModelTest test = new ModelTest(run);
            test.makeFirstStreets();
            while (test.calls < CALLS) {
                test.call(test.likedKind());
            }
        }
        Check.end();
    }

    private void compare(String call, IntSupplier due, IntSupplier made) {
        if (calls < CALLS) {
            calls++;
            Check.same("run " + run + " call " + calls + " " + call, Check.outcome(due), Check.outcome(made));
        }
    }

    private void makeFirstStreets() {
        int wanted = random.nextInt(4) == 0 ? 30 : random.nextInt(8);
        for (int i = 0; i < wanted; i++) {
            callStreet();
        }
    }

    private int likedKind() {
        int all = 0;
        for (int one : liking) {
            all += one;
        }
        int left = random.nextInt(all);
        int kind = 0;
        while (left >= liking[kind]) {
            left -= liking[kind];
            kind++;
        }
        return kind;
    }

    private void call(int kind) {
        switch (kind) {
            case 0: callStreet(); break;
            case 1: callSign(); break;
            case 2: callAlias(); break;
            case 3: callRange(); break;
            case 4: callLine(); break;
            case 5: callClose(); break;
            case 6: callLandmark(); break;
            case 7: callMeet(); break;
            case 8: callMap(); break;
            case 9: callWord(); break;
            default: callFind(); break;
        }
    }

    private int number(int low, int high) {
        if (random.nextInt(wildOneIn) == 0) {
            int[] wild = {Integer.MIN_VALUE, Integer.MAX_VALUE, low - 1, high + 1, low, high, random.nextInt()};
            return wild[random.nextInt(wild.length)];
        }
        return low + random.nextInt(high - low + 1);
    }

    private int streetNumber() {
        return number(0, Math.max(0, streets - 1));
    }

    private int coordinate() {
        return random.nextBoolean() ? number(-9999, 9999) : number(-3, 3);
    }

    private int house() {
        return random.nextInt(4) == 0 ? number(1, 9999) : number(1, 60);
    }

    private long letters() {
        long packed = random.nextInt(wildOneIn) == 0 ? random.nextLong() : 0;
        for (int i = 0; i < 8; i++) {
            packed = packed << 8 | 'a' + random.nextInt(letterKinds);
        }
        return random.nextInt(wildOneIn) == 0 ? packed ^ random.nextInt(256) : packed;
    }

    private long signs() {
        long packed = letters();
        for (int i = 0; i < 8; i++) {
            if (random.nextInt(3) == 0) {
                long sign = " 0123456789".charAt(random.nextInt(11));
                packed = packed & ~(255L << 8 * i) | sign << 8 * i;
            }
        }
        return packed;
    }

    private void callStreet() {
        int area = number(0, run % 2 == 0 ? 3 : 9);
        compare("street " + area, () -> {
            int made = model.street(area);
            streets = made + 1;
            return made;
        }, () -> x.street(area));
    }

    private void callSign() {
        int street = streetNumber();
        long letters = letters();
        int n = number(1, 8);
        compare("sign " + street + " " + letters + " " + n,
                () -> model.sign(street, letters, n), () -> x.sign(street, letters, n));
        compare("twice", () -> model.twice(), () -> x.twice());
    }

    private void callAlias() {
        int street = streetNumber();
        compare("alias " + street, () -> model.alias(street), () -> x.alias(street));
    }

    private void callRange() {
        int street = streetNumber();
        int side = number(0, 2);
        int low = house();
        int high = random.nextInt(3) == 0 ? house() : low + random.nextInt(9) - 1;
        compare("range " + street + " " + side + " " + low + " " + high,
                () -> model.range(street, side, low, high), () -> x.range(street, side, low, high));
    }

    private void callLine() {
        int street = streetNumber();
        int fromX = coordinate();
        int fromY = coordinate();
        int toX = coordinate();
        int toY = coordinate();
        compare("line " + street + " " + fromX + " " + fromY + " " + toX + " " + toY,
                () -> model.line(street, fromX, fromY, toX, toY), () -> x.line(street, fromX, fromY, toX, toY));
    }

    private void callClose() {
        int street = streetNumber();
        boolean on = random.nextBoolean();
        compare("close " + street + " " + on, () -> {
            model.close(street, on);
            return 0;
        }, () -> {
            x.close(street, on);
            return 0;
        });
    }

    private void callLandmark() {
        int street = streetNumber();
        int house = house();
        long letters = letters();
        int n = number(1, 8);
        compare("landmark " + street + " " + house + " " + letters + " " + n,
                () -> model.landmark(street, house, letters, n), () -> x.landmark(street, house, letters, n));
    }

    private void callMeet() {
        int street = streetNumber();
        int other = streetNumber();
        int metres = random.nextBoolean() ? 0 : number(0, 5);
        int otherMetres = random.nextBoolean() ? 0 : number(0, 5);
        compare("meet " + street + " " + other + " " + metres + " " + otherMetres, () -> {
            model.meet(street, other, metres, otherMetres);
            return 0;
        }, () -> {
            x.meet(street, other, metres, otherMetres);
            return 0;
        });
        compare("corner " + other + " " + street, () -> model.corner(other, street), () -> x.corner(other, street));
    }

    private void callMap() {
        int street = streetNumber();
        int other = streetNumber();
        int metres = random.nextBoolean() ? number(0, 5) : number(0, 28281);
        int atX = coordinate();
        int atY = coordinate();
        compare("post " + street + " " + metres, () -> model.post(street, metres), () -> x.post(street, metres));
        compare("near " + atX + " " + atY, () -> model.near(atX, atY), () -> x.near(atX, atY));
        compare("corner " + street + " " + other, () -> model.corner(street, other), () -> x.corner(street, other));
    }

    private void callWord() {
        long signs = signs();
        int n = random.nextInt(6) == 0 ? 0 : number(0, 8);
        compare("word " + signs + " " + n, () -> model.word(signs, n), () -> x.word(signs, n));
    }

    private void callFind() {
        int k = number(1, 10);
        compare("find " + k, () -> model.find(k), () -> x.find(k));
        callPlaces();
        if (random.nextInt(4) == 0) {
            call(random.nextInt(10));
            callPlaces();
        }
    }

    private void callPlaces() {
        for (int asked = 0; asked < 8; asked++) {
            int i = number(0, 9);
            int what = number(0, 5);
            compare("place " + i + " " + what, () -> model.place(i, what), () -> x.place(i, what));
        }
    }
}
