import java.util.function.IntSupplier;

/** What the tests of the project share: calls are compared with what is due, and counted. */
final class Check {
    static final Class<?> ARGUMENT = IllegalArgumentException.class;
    static final Class<?> INDEX = IndexOutOfBoundsException.class;
    static final Class<?> STATE = IllegalStateException.class;
    static final Class<?> ROOM = UnsupportedOperationException.class;

    private static String sentence = "";
    private static int checksOfSentence = 0;
    private static int sentences = 0;
    private static int checks = 0;
    private static int wrong = 0;

    private Check() {
    }

    /** The checks that follow stand for these words of the document, up to the next ones. */
    static void sentence(String promise, String words) {
        endSentence();
        sentence = promise + ", \"" + words + "\": ";
        checksOfSentence = 0;
        sentences++;
    }

    /** A sentence without a check would look as if it held. */
    private static void endSentence() {
        if (sentences > 0 && checksOfSentence == 0) {
            wrong++;
            System.out.println(sentence + "nothing was checked");
        }
    }

    static void answers(String call, int due, IntSupplier made) {
        same(call, String.valueOf(due), outcome(made));
    }

    /** The very class is asked for: what the machine throws would be a class below it. */
    static void refuses(String call, Class<?> due, IntSupplier made) {
        same(call, due.getName(), outcome(made));
    }

    static void refuses(String call, Class<?> due, Runnable made) {
        same(call, due.getName(), outcome(made));
    }

    static void accepts(String call, Runnable made) {
        same(call, "done", outcome(made));
    }

    static void same(String what, String due, String got) {
        checks++;
        checksOfSentence++;
        if (!due.equals(got)) {
            wrong++;
            System.out.println(sentence + what + " answered " + got + ", due is " + due);
        }
    }

    static String outcome(IntSupplier made) {
        try {
            return String.valueOf(made.getAsInt());
        } catch (RuntimeException e) {
            return e.getClass().getName();
        }
    }

    static String outcome(Runnable made) {
        try {
            made.run();
            return "done";
        } catch (RuntimeException e) {
            return e.getClass().getName();
        }
    }

    static void end() {
        endSentence();
        System.out.println(sentences + " sentences, " + checks + " checks, " + wrong + " wrong");
        if (wrong != 0 || checks == 0) {
            System.exit(1);
        }
    }

    /** Numbers outside of a range: next to it, far off, and such as a byte or a short would wrap into it. */
    static int[] outside(int low, int high) {
        return new int[] {Integer.MIN_VALUE, Integer.MIN_VALUE + high, low - 65536, low - 256, low - 1,
            high + 1, high + 256, high + 65536, Integer.MAX_VALUE};
    }

    /** The signs of a text as the lowest bytes of a long, the first sign the highest. */
    static long pack(String text) {
        long packed = 0;
        for (int i = 0; i < text.length(); i++) {
            packed = packed << 8 | text.charAt(i);
        }
        return packed;
    }

    /** Eight bytes b, with one other byte at a place counted from the lowest. */
    static long packedWith(int sign, int at) {
        return pack("bbbbbbbb") & ~(255L << 8 * at) | (long) sign << 8 * at;
    }

    static AddressWords withStreets(int count) {
        AddressWords x = new AddressWords();
        for (int i = 0; i < count; i++) {
            x.street(0);
        }
        return x;
    }

    static int sign(AddressWords x, int street, String letters) {
        return x.sign(street, pack(letters), letters.length());
    }

    static int landmark(AddressWords x, int street, int house, String letters) {
        return x.landmark(street, house, pack(letters), letters.length());
    }

    /** Signs of any length at the end of a street's latest name. */
    static void name(AddressWords x, int street, String letters) {
        for (int at = 0; at < letters.length(); at += 8) {
            sign(x, street, letters.substring(at, Math.min(at + 8, letters.length())));
        }
    }

    static void alias(AddressWords x, int street, String letters) {
        x.alias(street);
        name(x, street, letters);
    }

    static int namedStreet(AddressWords x, int area, String letters) {
        int number = x.street(area);
        name(x, number, letters);
        return number;
    }

    static void moreSaid(AddressWords x, String signs) {
        for (int at = 0; at < signs.length(); at += 8) {
            String part = signs.substring(at, Math.min(at + 8, signs.length()));
            x.word(pack(part), part.length());
        }
    }

    static void say(AddressWords x, String signs) {
        x.word(0, 0);
        moreSaid(x, signs);
    }

    /** Street, house, reason, distance, area and landmark of a place of the latest find. */
    static String place(AddressWords x, int i) {
        StringBuilder told = new StringBuilder();
        for (int what = 0; what < 6; what++) {
            int asked = what;
            told.append(what == 0 ? "" : " ").append(outcome(() -> x.place(i, asked)));
        }
        return told.toString();
    }

    /** Says the signs and finds as many places as are due. */
    static void tells(AddressWords x, String signs, String... due) {
        say(x, signs);
        x.find(due.length);
        for (int i = 0; i < due.length; i++) {
            same("place " + i + " of \"" + signs + "\"", due[i], place(x, i));
        }
    }

    /** What is told of the nearest place of the signs: 3 is the distance, 1 the house. */
    static void nearest(AddressWords x, String signs, int what, int due) {
        say(x, signs);
        x.find(1);
        answers("place(0, " + what + ") of \"" + signs + "\"", due, () -> x.place(0, what));
    }

    static int point(int x, int y) {
        return 20000 * (x + 10000) + y + 10000;
    }
}
