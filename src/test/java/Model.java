import java.math.BigDecimal;
import java.math.BigInteger;
import java.math.MathContext;
import java.math.RoundingMode;
import java.util.ArrayList;
import java.util.Comparator;
import java.util.HashMap;
import java.util.List;
import java.util.Map;
import java.util.TreeSet;
import java.util.regex.Matcher;
import java.util.regex.Pattern;

/**
 * The document once more, as slow and as literal as it can be said with the Java library, so that
 * the class can be compared with it.
 */
final class Model {
    private static final class Street {
        int area;
        final List<String> names = new ArrayList<>(List.of(""));
        final List<TreeSet<Integer>> ranges = new ArrayList<>();
        int[] line = new int[4];
        int length;
        boolean closed;
    }

    private static final class Landmark {
        int street;
        int house;
        String name;
    }

    private final List<Street> streets = new ArrayList<>();
    private final List<Landmark> landmarks = new ArrayList<>();
    private final Map<List<Integer>, Integer> corners = new HashMap<>();
    private final List<int[]> places = new ArrayList<>();
    private String said = "";

    private static void argument(boolean refused) {
        if (refused) {
            throw new IllegalArgumentException();
        }
    }

    private static void index(boolean refused) {
        if (refused) {
            throw new IndexOutOfBoundsException();
        }
    }

    private static void state(boolean refused) {
        if (refused) {
            throw new IllegalStateException();
        }
    }

    private static void room(boolean refused) {
        if (refused) {
            throw new UnsupportedOperationException();
        }
    }

    private Street known(int number) {
        argument(number < 0 || number >= streets.size());
        return streets.get(number);
    }

    private static String unpack(long packed, int n) {
        byte[] bytes = new byte[9];
        byte[] all = BigInteger.valueOf(packed).and(BigInteger.ONE.shiftLeft(64).subtract(BigInteger.ONE)).toByteArray();
        System.arraycopy(all, 0, bytes, 9 - all.length, all.length);
        StringBuilder text = new StringBuilder();
        for (int i = 9 - n; i < 9; i++) {
            text.append((char) (bytes[i] & 255));
        }
        return text.toString();
    }

    private static String letters(long packed, int n) {
        index(n < 1 || n > 8);
        String text = unpack(packed, n);
        index(!text.matches("[a-z]+"));
        return text;
    }

    private static void coordinates(int... all) {
        for (int one : all) {
            index(one < -9999 || one > 9999);
        }
    }

    int street(int area) {
        index(area < 0 || area > 9);
        room(streets.size() == 30);
        Street made = new Street();
        made.area = area;
        streets.add(made);
        places.clear();
        return streets.size() - 1;
    }

    int sign(int street, long packed, int n) {
        List<String> names = known(street).names;
        String text = names.get(names.size() - 1) + letters(packed, n);
        room(text.length() > 16);
        names.set(names.size() - 1, text);
        places.clear();
        return text.length();
    }

    int alias(int street) {
        List<String> names = known(street).names;
        state(names.get(names.size() - 1).isEmpty());
        room(names.size() == 3);
        names.add("");
        places.clear();
        return names.size();
    }

    int range(int street, int side, int low, int high) {
        Street known = known(street);
        index(side < 0 || side > 2 || low < 1 || low > 9999 || high < 1 || high > 9999);
        TreeSet<Integer> houses = new TreeSet<>();
        for (int house = low; house <= high; house++) {
            if (side == 2 || house % 2 == side) {
                houses.add(house);
            }
        }
        index(houses.isEmpty());
        room(known.ranges.size() == 6);
        known.ranges.add(houses);
        places.clear();
        return known.ranges.size();
    }

    int line(int street, int x, int y, int tox, int toy) {
        Street known = known(street);
        coordinates(x, y, tox, toy);
        known.line = new int[] {x, y, tox, toy};
        BigInteger wide = BigInteger.valueOf(tox - x);
        BigInteger high = BigInteger.valueOf(toy - y);
        known.length = wide.pow(2).add(high.pow(2)).sqrt().intValueExact();
        places.clear();
        return known.length;
    }

    void close(int street, boolean on) {
        known(street).closed = on;
        places.clear();
    }

    int landmark(int street, int house, long packed, int n) {
        known(street);
        index(house < 1 || house > 9999);
        String name = letters(packed, n);
        state(landmarks.stream().anyMatch(one -> one.name.equals(name)));
        room(landmarks.size() == 20);
        Landmark made = new Landmark();
        made.street = street;
        made.house = house;
        made.name = name;
        landmarks.add(made);
        places.clear();
        return landmarks.size() - 1;
    }

    void meet(int street, int other, int metres, int otherMetres) {
        Street first = known(street);
        Street second = known(other);
        index(metres < 0 || metres > first.length || otherMetres < 0 || otherMetres > second.length);
        state(street == other || corners.containsKey(List.of(street, other)));
        room(corners.size() == 80);
        corners.put(List.of(street, other), metres);
        corners.put(List.of(other, street), otherMetres);
    }

    int corner(int street, int other) {
        known(street);
        known(other);
        return corners.getOrDefault(List.of(street, other), -1);
    }

    int post(int street, int metres) {
        Street known = known(street);
        index(metres < 0 || metres > known.length);
        return 20000 * onLine(known, 0, metres) + onLine(known, 1, metres);
    }

    private static int onLine(Street street, int axis, int metres) {
        int from = street.line[axis] + 10000;
        if (street.length == 0) {
            return from;
        }
        int way = street.line[axis + 2] - street.line[axis];
        // The sum is above 0, where HALF_UP is halves up.
        return new BigDecimal(way).multiply(new BigDecimal(metres))
                .divide(new BigDecimal(street.length), new MathContext(40))
                .add(new BigDecimal(from)).setScale(0, RoundingMode.HALF_UP).intValueExact();
    }

    int near(int x, int y) {
        coordinates(x, y);
        int nearest = -1;
        double least = Double.MAX_VALUE;
        for (int i = 0; i < streets.size(); i++) {
            int[] line = streets.get(i).line;
            double way = Math.pow(line[0] - x, 2) + Math.pow(line[1] - y, 2);
            if (way < least) {
                least = way;
                nearest = i;
            }
        }
        return nearest;
    }

    int word(long packed, int n) {
        index(n < 0 || n > 8);
        String signs = unpack(packed, n);
        index(!signs.matches("[a-z 0-9]*"));
        room(said.length() + n > 40);
        said = n == 0 ? "" : said + signs;
        places.clear();
        return said.length();
    }

    int find(int k) {
        index(k < 1 || k > 10);
        state(said.isEmpty());
        places.clear();
        for (int i = 0; i < streets.size(); i++) {
            places.add(streetPlace(i));
        }
        for (int i = 0; i < landmarks.size(); i++) {
            Landmark one = landmarks.get(i);
            Street street = streets.get(one.street);
            places.add(new int[] {one.street, one.house, street.closed ? 13 : 3, distance(List.of(one.name)),
                street.area, i});
        }
        places.sort(Comparator.comparingInt(place -> place[3]));
        if (places.size() > k) {
            places.subList(k, places.size()).clear();
        }
        return places.size();
    }

    private int[] streetPlace(int number) {
        Street street = streets.get(number);
        Matcher digits = Pattern.compile("[0-9]+").matcher(said);
        String text = digits.find() ? digits.group() : "0";
        int house = text.length() > 4 ? 9999 : Integer.parseInt(text);
        int reason = 2;
        if (house != 0) {
            TreeSet<Integer> all = new TreeSet<>();
            street.ranges.forEach(all::addAll);
            reason = all.contains(house) ? 0 : 1;
            int asked = house;
            house = all.stream().min(Comparator.<Integer>comparingInt(one -> Math.abs(one - asked))
                    .thenComparingInt(one -> one)).orElse(asked);
        }
        return new int[] {number, house, street.closed ? reason + 10 : reason, distance(street.names), street.area, -1};
    }

    private int distance(List<String> names) {
        int least = 99;
        for (String word : said.split("[^a-z]+")) {
            for (String name : names) {
                if (!word.isEmpty() && !name.isEmpty()) {
                    least = Math.min(least, changes(word, name, new HashMap<>()));
                }
            }
        }
        return least;
    }

    /** The recursive definition of optimal string alignment, from the ends of both on. */
    private static int changes(String one, String two, Map<List<Integer>, Integer> told) {
        int a = one.length();
        int b = two.length();
        if (a == 0 || b == 0) {
            return a + b;
        }
        Integer before = told.get(List.of(a, b));
        if (before != null) {
            return before;
        }
        String shorterOne = one.substring(0, a - 1);
        String shorterTwo = two.substring(0, b - 1);
        int least = changes(shorterOne, shorterTwo, told) + (one.charAt(a - 1) == two.charAt(b - 1) ? 0 : 1);
        least = Math.min(least, changes(shorterOne, two, told) + 1);
        least = Math.min(least, changes(one, shorterTwo, told) + 1);
        if (a > 1 && b > 1 && one.charAt(a - 1) == two.charAt(b - 2) && one.charAt(a - 2) == two.charAt(b - 1)) {
            least = Math.min(least, changes(one.substring(0, a - 2), two.substring(0, b - 2), told) + 1);
        }
        told.put(List.of(a, b), least);
        return least;
    }

    int place(int i, int what) {
        argument(i < 0 || i >= places.size());
        index(what < 0 || what > 5);
        return places.get(i)[what];
    }

    int twice() {
        int count = 0;
        for (Street one : streets) {
            boolean shared = false;
            for (Street other : streets) {
                for (String name : one.names) {
                    shared |= one != other && one.area == other.area && !name.isEmpty() && other.names.contains(name);
                }
            }
            count += shared ? 1 : 0;
        }
        return count;
    }
}
