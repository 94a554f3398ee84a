/**
 * Places from words: streets with names and aliases, house numbers by sides, landmarks, corners and
 * kilometre posts; words are compared by letters changed, and the nearest are told, with reasons.
 */
public final class AddressWords {
    private static final int MAX_STREETS = 30;
    private static final int MAX_AREA = 9;
    private static final int MAX_NAMES = 3;
    private static final int MAX_NAME_LETTERS = 16;
    private static final int MAX_RANGES = 6;
    private static final int MAX_HOUSE = 9999;
    private static final int MAX_COORDINATE = 9999;
    private static final int MAX_LANDMARKS = 20;
    private static final int MAX_CORNERS = 40;
    private static final int MAX_PLACES = 10;

    /** How many signs one long can carry. */
    private static final int MAX_PACKED = 8;
    private static final int MAX_SAID = 40;
    /** Words need a sign between them, so 40 signs hold no more than this. */
    private static final int MAX_WORDS = 20;
    private static final int MAX_DIGITS = 4;

    private static final int SIDE_BOTH = 2;

    private static final int NOTHING_TO_COMPARE = 99;
    private static final int NO_HOUSE = 0;
    private static final int NONE = -1;

    private static final int REASON_IN_RANGE = 0;
    private static final int REASON_BEYOND_RANGES = 1;
    private static final int REASON_NO_HOUSE_SAID = 2;
    private static final int REASON_LANDMARK = 3;
    private static final int MORE_IF_CLOSED = 10;

    private static final int POST_FACTOR = 20000;
    private static final int POST_SHIFT = 10000;

    private final Street[] streets = new Street[MAX_STREETS];
    private int streetCount;
    private final Landmark[] landmarks = new Landmark[MAX_LANDMARKS];
    private int landmarkCount;
    private final Corner[] corners = new Corner[MAX_CORNERS];
    private int cornerCount;
    private final Said said = new Said();
    private final Edits edits = new Edits();
    private final Ranking ranking = new Ranking();
    private final Place[] places = new Place[MAX_PLACES];
    private int placeCount;

    public AddressWords() {
        for (int i = 0; i < MAX_PLACES; i++) {
            places[i] = new Place();
        }
    }

    public int street(int area) throws IndexOutOfBoundsException, UnsupportedOperationException {
        if (area < 0 || area > MAX_AREA) {
            throw new IndexOutOfBoundsException("no such area");
        }
        if (streetCount >= MAX_STREETS) {
            throw new UnsupportedOperationException("no room for a street");
        }
        streets[streetCount] = new Street(area);
        streetCount++;
        forgetPlaces();
        return streetCount - 1;
    }

    public int sign(int street, long letters, int n)
            throws IllegalArgumentException, IndexOutOfBoundsException, UnsupportedOperationException {
        Name latest = knownStreet(street).latestName();
        requireLetters(letters, n);
        if (!latest.hasRoomFor(n)) {
            throw new UnsupportedOperationException("no room in the name");
        }
        latest.append(letters, n);
        forgetPlaces();
        return latest.length;
    }

    public int alias(int street)
            throws IllegalArgumentException, IllegalStateException, UnsupportedOperationException {
        Street known = knownStreet(street);
        if (known.latestName().isEmpty()) {
            throw new IllegalStateException("the latest name is empty");
        }
        if (known.nameCount >= MAX_NAMES) {
            throw new UnsupportedOperationException("no room for a name");
        }
        known.nameCount++;
        forgetPlaces();
        return known.nameCount;
    }

    public int range(int street, int side, int low, int high)
            throws IllegalArgumentException, IndexOutOfBoundsException, UnsupportedOperationException {
        Street known = knownStreet(street);
        requireHouses(side, low, high);
        if (known.rangeCount >= MAX_RANGES) {
            throw new UnsupportedOperationException("no room for a range");
        }
        known.ranges[known.rangeCount] = new HouseRange(side, low, high);
        known.rangeCount++;
        forgetPlaces();
        return known.rangeCount;
    }

    public int line(int street, int x, int y, int tox, int toy)
            throws IllegalArgumentException, IndexOutOfBoundsException {
        Street known = knownStreet(street);
        requirePoint(x, y);
        requirePoint(tox, toy);
        known.draw(x, y, tox, toy);
        forgetPlaces();
        return known.length;
    }

    public void close(int street, boolean on) throws IllegalArgumentException {
        knownStreet(street).closed = on;
        forgetPlaces();
    }

    public int landmark(int street, int house, long letters, int n)
            throws IllegalArgumentException, IndexOutOfBoundsException, IllegalStateException,
            UnsupportedOperationException {
        knownStreet(street);
        requireHouse(house);
        requireLetters(letters, n);
        Landmark made = new Landmark(street, house);
        made.name.append(letters, n);
        if (hasLandmarkNamed(made.name)) {
            throw new IllegalStateException("a landmark has that name");
        }
        if (landmarkCount >= MAX_LANDMARKS) {
            throw new UnsupportedOperationException("no room for a landmark");
        }
        landmarks[landmarkCount] = made;
        landmarkCount++;
        forgetPlaces();
        return landmarkCount - 1;
    }

    /** A corner is no street, landmark or word: the places found stay. */
    public void meet(int street, int other, int metres, int otherMetres)
            throws IllegalArgumentException, IndexOutOfBoundsException, IllegalStateException,
            UnsupportedOperationException {
        Street first = knownStreet(street);
        Street second = knownStreet(other);
        requireMetres(first, metres);
        requireMetres(second, otherMetres);
        if (street == other) {
            throw new IllegalStateException("a street does not meet itself");
        }
        if (metresOfCorner(street, other) != NONE) {
            throw new IllegalStateException("they meet already");
        }
        if (cornerCount >= MAX_CORNERS) {
            throw new UnsupportedOperationException("no room for a corner");
        }
        corners[cornerCount] = new Corner(street, other, metres, otherMetres);
        cornerCount++;
    }

    public int corner(int street, int other) throws IllegalArgumentException {
        knownStreet(street);
        knownStreet(other);
        return metresOfCorner(street, other);
    }

    public int post(int street, int metres) throws IllegalArgumentException, IndexOutOfBoundsException {
        Street known = knownStreet(street);
        requireMetres(known, metres);
        int x = known.between(known.x, known.toX, metres);
        int y = known.between(known.y, known.toY, metres);
        return POST_FACTOR * (x + POST_SHIFT) + y + POST_SHIFT;
    }

    public int near(int x, int y) throws IndexOutOfBoundsException {
        requirePoint(x, y);
        int nearest = NONE;
        int least = 0;
        for (int i = 0; i < streetCount; i++) {
            int square = squareOfWay(x, y, streets[i].x, streets[i].y);
            if (nearest == NONE || square < least) {
                nearest = i;
                least = square;
            }
        }
        return nearest;
    }

    public int word(long signs, int n) throws IndexOutOfBoundsException, UnsupportedOperationException {
        if (n < 0 || n > MAX_PACKED) {
            throw new IndexOutOfBoundsException("not 0 to 8 signs");
        }
        requireSigns(signs, n);
        if (!said.hasRoomFor(n)) {
            throw new UnsupportedOperationException("no room for the signs");
        }
        if (n == 0) {
            said.clear();
        }
        said.append(signs, n);
        forgetPlaces();
        return said.length;
    }

    public int find(int k) throws IndexOutOfBoundsException, IllegalStateException {
        if (k < 1 || k > MAX_PLACES) {
            throw new IndexOutOfBoundsException("not 1 to 10 places");
        }
        if (said.length == 0) {
            throw new IllegalStateException("nothing is said");
        }
        said.lookThrough();
        rank(k);
        placeCount = ranking.size;
        for (int i = 0; i < placeCount; i++) {
            tellCandidate(places[i], ranking.candidates[i], ranking.distances[i]);
        }
        return placeCount;
    }

    public int place(int i, int what) throws IllegalArgumentException, IndexOutOfBoundsException {
        if (i < 0 || i >= placeCount) {
            throw new IllegalArgumentException("no such place");
        }
        if (what < 0 || what > 5) {
            throw new IndexOutOfBoundsException("no such what");
        }
        Place told = places[i];
        switch (what) {
            case 0: return told.street;
            case 1: return told.house;
            case 2: return told.reason;
            case 3: return told.distance;
            case 4: return told.area;
            default: return told.landmark;
        }
    }

    public int twice() {
        int count = 0;
        for (int i = 0; i < streetCount; i++) {
            if (sharesName(i)) {
                count++;
            }
        }
        return count;
    }

    private Street knownStreet(int number) throws IllegalArgumentException {
        if (number < 0 || number >= streetCount) {
            throw new IllegalArgumentException("no such street");
        }
        return streets[number];
    }

    private void forgetPlaces() {
        placeCount = 0;
    }

    private boolean hasLandmarkNamed(Name name) {
        for (int i = 0; i < landmarkCount; i++) {
            if (landmarks[i].name.isSameAs(name)) {
                return true;
            }
        }
        return false;
    }

    private int metresOfCorner(int street, int other) {
        for (int i = 0; i < cornerCount; i++) {
            Corner known = corners[i];
            if (known.street == street && known.other == other) {
                return known.metres;
            }
            if (known.street == other && known.other == street) {
                return known.otherMetres;
            }
        }
        return NONE;
    }

    private boolean sharesName(int number) {
        Street one = streets[number];
        for (int i = 0; i < streetCount; i++) {
            if (i != number && streets[i].area == one.area && one.sharesNameWith(streets[i])) {
                return true;
            }
        }
        return false;
    }

    /** Streets go first and in order, so that those of the same distance stay so. */
    private void rank(int k) {
        ranking.begin(k);
        for (int i = 0; i < streetCount; i++) {
            ranking.offer(i, distanceOfStreet(streets[i]));
        }
        for (int i = 0; i < landmarkCount; i++) {
            ranking.offer(MAX_STREETS + i, nearerDistance(landmarks[i].name, NOTHING_TO_COMPARE));
        }
    }

    private int distanceOfStreet(Street street) {
        int least = NOTHING_TO_COMPARE;
        for (int i = 0; i < street.nameCount; i++) {
            least = nearerDistance(street.names[i], least);
        }
        return least;
    }

    private int nearerDistance(Name name, int limit) {
        int least = limit;
        if (name.isEmpty()) {
            return least;
        }
        for (int i = 0; i < said.wordCount; i++) {
            // A distance is never below the difference of the lengths: such words need no counting.
            if (Math.abs(said.wordLengths[i] - name.length) < least) {
                least = Math.min(least, edits.count(said.signs, said.wordStarts[i], said.wordLengths[i], name));
            }
        }
        return least;
    }

    private void tellCandidate(Place told, int candidate, int distance) {
        told.distance = distance;
        int number = candidate - MAX_STREETS;
        if (number >= 0 && number < landmarkCount) {
            tellLandmark(told, number);
        } else if (candidate >= 0 && candidate < streetCount) {
            tellStreet(told, candidate);
        }
    }

    private void tellLandmark(Place told, int number) {
        Landmark known = landmarks[number];
        tellWhere(told, known.street, REASON_LANDMARK);
        told.house = known.house;
        told.landmark = number;
    }

    private void tellStreet(Place told, int number) {
        Street known = streets[number];
        int house = said.house;
        int reason = known.hasHouse(house) ? REASON_IN_RANGE : REASON_BEYOND_RANGES;
        tellWhere(told, number, house == NO_HOUSE ? REASON_NO_HOUSE_SAID : reason);
        told.house = house == NO_HOUSE ? NO_HOUSE : known.nearestHouse(house);
        told.landmark = NONE;
    }

    private void tellWhere(Place told, int street, int reason) {
        Street known = streets[street];
        told.street = street;
        told.area = known.area;
        told.reason = known.closed ? reason + MORE_IF_CLOSED : reason;
    }

    private static void requireLetters(long packed, int n) throws IndexOutOfBoundsException {
        if (n < 1 || n > MAX_PACKED) {
            throw new IndexOutOfBoundsException("not 1 to 8 letters");
        }
        for (int i = 0; i < n; i++) {
            if (!isLetter(signAt(packed, n, i))) {
                throw new IndexOutOfBoundsException("no letter");
            }
        }
    }

    private static void requireSigns(long packed, int n) throws IndexOutOfBoundsException {
        for (int i = 0; i < n; i++) {
            char sign = signAt(packed, n, i);
            if (!isLetter(sign) && !isDigit(sign) && sign != ' ') {
                throw new IndexOutOfBoundsException("no letter, blank or digit");
            }
        }
    }

    private static void requireHouses(int side, int low, int high) throws IndexOutOfBoundsException {
        if (side < 0 || side > SIDE_BOTH) {
            throw new IndexOutOfBoundsException("no such side");
        }
        requireHouse(low);
        requireHouse(high);
        if (HouseRange.firstFrom(side, low) > HouseRange.lastTo(side, high)) {
            throw new IndexOutOfBoundsException("no house in it");
        }
    }

    private static void requireHouse(int house) throws IndexOutOfBoundsException {
        if (house < 1 || house > MAX_HOUSE) {
            throw new IndexOutOfBoundsException("no such house number");
        }
    }

    private static void requirePoint(int x, int y) throws IndexOutOfBoundsException {
        if (x < -MAX_COORDINATE || x > MAX_COORDINATE || y < -MAX_COORDINATE || y > MAX_COORDINATE) {
            throw new IndexOutOfBoundsException("no such coordinate");
        }
    }

    private static void requireMetres(Street street, int metres) throws IndexOutOfBoundsException {
        if (metres < 0 || metres > street.length) {
            throw new IndexOutOfBoundsException("no such metres");
        }
    }

    /** The i-th of the lowest n bytes, the highest of these first. */
    private static char signAt(long packed, int n, int i) {
        return (char) ((packed >>> (8 * (n - 1 - i))) & 0xff);
    }

    private static boolean isLetter(char sign) {
        return sign >= 'a' && sign <= 'z';
    }

    private static boolean isDigit(char sign) {
        return sign >= '0' && sign <= '9';
    }

    /** Coordinates differ by 19,998 at most, so the sum stays within an int. */
    private static int squareOfWay(int x, int y, int toX, int toY) {
        int wide = toX - x;
        int high = toY - y;
        return wide * wide + high * high;
    }

    /** The root of a square of a way on the map is below 2 to the 15th: its bits are tried downwards. */
    private static int wholeRoot(int square) {
        int root = 0;
        for (int bit = 1 << 14; bit > 0; bit >>= 1) {
            int tried = root + bit;
            if (tried * tried <= square) {
                root = tried;
            }
        }
        return root;
    }

    private static final class Name {
        private final char[] letters = new char[MAX_NAME_LETTERS];
        private int length;

        boolean isEmpty() {
            return length == 0;
        }

        boolean hasRoomFor(int n) {
            return length + n <= MAX_NAME_LETTERS;
        }

        void append(long packed, int n) {
            for (int i = 0; i < n && length < MAX_NAME_LETTERS; i++) {
                letters[length] = signAt(packed, n, i);
                length++;
            }
        }

        boolean isSameAs(Name other) {
            if (length != other.length) {
                return false;
            }
            for (int i = 0; i < length; i++) {
                if (letters[i] != other.letters[i]) {
                    return false;
                }
            }
            return true;
        }
    }

    /** Keeps the first and the last house of its side, so that both ends are houses. */
    private static final class HouseRange {
        private final int side;
        private final int first;
        private final int last;

        HouseRange(int side, int low, int high) {
            this.side = side;
            this.first = firstFrom(side, low);
            this.last = lastTo(side, high);
        }

        static int firstFrom(int side, int low) {
            return isOnSide(side, low) ? low : low + 1;
        }

        static int lastTo(int side, int high) {
            return isOnSide(side, high) ? high : high - 1;
        }

        private static boolean isOnSide(int side, int house) {
            return side == SIDE_BOTH || (house & 1) == side;
        }

        /** Between two houses of a side both are as near: the lower one is told. */
        int nearestTo(int house) {
            if (house <= first) {
                return first;
            }
            if (house >= last) {
                return last;
            }
            return isOnSide(side, house) ? house : house - 1;
        }
    }

    private static final class Street {
        private final int area;
        private final Name[] names = new Name[MAX_NAMES];
        private int nameCount = 1;
        private final HouseRange[] ranges = new HouseRange[MAX_RANGES];
        private int rangeCount;
        private int x;
        private int y;
        private int toX;
        private int toY;
        private int length;
        private boolean closed;

        Street(int area) {
            this.area = area;
            for (int i = 0; i < MAX_NAMES; i++) {
                names[i] = new Name();
            }
        }

        Name latestName() {
            return names[nameCount - 1];
        }

        void draw(int fromX, int fromY, int endX, int endY) {
            x = fromX;
            y = fromY;
            toX = endX;
            toY = endY;
            length = wholeRoot(squareOfWay(fromX, fromY, endX, endY));
        }

        /**
         * The coordinate at metres on the way from one to another, halves up. Twice 19,998 times
         * 28,281 is the most that is divided, which an int holds.
         */
        int between(int from, int to, int metres) {
            if (length == 0) {
                return from;
            }
            return from + Math.floorDiv(2 * (to - from) * metres + length, 2 * length);
        }

        boolean hasHouse(int house) {
            return rangeCount > 0 && nearestHouse(house) == house;
        }

        int nearestHouse(int house) {
            int nearest = house;
            for (int i = 0; i < rangeCount; i++) {
                int offered = ranges[i].nearestTo(house);
                if (i == 0 || isNearer(house, offered, nearest)) {
                    nearest = offered;
                }
            }
            return nearest;
        }

        private static boolean isNearer(int house, int offered, int nearest) {
            int way = Math.abs(offered - house);
            int least = Math.abs(nearest - house);
            return way < least || (way == least && offered < nearest);
        }

        boolean sharesNameWith(Street other) {
            for (int i = 0; i < nameCount; i++) {
                if (other.hasName(names[i])) {
                    return true;
                }
            }
            return false;
        }

        /** An empty name is none yet: names have 1 to 16 letters. */
        private boolean hasName(Name name) {
            if (name.isEmpty()) {
                return false;
            }
            for (int i = 0; i < nameCount; i++) {
                if (names[i].isSameAs(name)) {
                    return true;
                }
            }
            return false;
        }
    }

    private static final class Landmark {
        private final int street;
        private final int house;
        private final Name name = new Name();

        Landmark(int street, int house) {
            this.street = street;
            this.house = house;
        }
    }

    private static final class Corner {
        private final int street;
        private final int other;
        private final int metres;
        private final int otherMetres;

        Corner(int street, int other, int metres, int otherMetres) {
            this.street = street;
            this.other = other;
            this.metres = metres;
            this.otherMetres = otherMetres;
        }
    }

    private static final class Said {
        private final char[] signs = new char[MAX_SAID];
        private int length;
        private final int[] wordStarts = new int[MAX_WORDS];
        private final int[] wordLengths = new int[MAX_WORDS];
        private int wordCount;
        private int numberCount;
        private int digitCount;
        private int house;

        boolean hasRoomFor(int n) {
            return length + n <= MAX_SAID;
        }

        void clear() {
            length = 0;
        }

        void append(long packed, int n) {
            for (int i = 0; i < n && length < MAX_SAID; i++) {
                signs[length] = signAt(packed, n, i);
                length++;
            }
        }

        void lookThrough() {
            wordCount = 0;
            numberCount = 0;
            digitCount = 0;
            house = NO_HOUSE;
            for (int i = 0; i < length; i++) {
                if (isLetter(signs[i])) {
                    takeLetter(i);
                } else if (isDigit(signs[i])) {
                    takeDigit(i);
                }
            }
        }

        private void takeLetter(int at) {
            boolean starts = at == 0 || !isLetter(signs[at - 1]);
            if (starts && wordCount < MAX_WORDS) {
                wordStarts[wordCount] = at;
                wordLengths[wordCount] = 0;
                wordCount++;
            }
            if (wordCount > 0) {
                wordLengths[wordCount - 1]++;
            }
        }

        private void takeDigit(int at) {
            if (at == 0 || !isDigit(signs[at - 1])) {
                numberCount++;
            }
            if (numberCount == 1) {
                digitCount++;
                house = digitCount > MAX_DIGITS ? MAX_HOUSE : 10 * house + (signs[at] - '0');
            }
        }
    }

    /** Counts the letters put in, taken out, changed or swapped, in three rows that are used again. */
    private static final class Edits {
        private int[] beforeLast = new int[MAX_NAME_LETTERS + 1];
        private int[] last = new int[MAX_NAME_LETTERS + 1];
        private int[] row = new int[MAX_NAME_LETTERS + 1];

        int count(char[] signs, int start, int wordLength, Name name) {
            for (int j = 0; j <= name.length; j++) {
                row[j] = j;
            }
            for (int i = 0; i < wordLength; i++) {
                turnRows();
                // A blank stands in no name, so the first letter is swapped with none.
                char before = i > 0 ? signs[start + i - 1] : ' ';
                fillRow(i + 1, signs[start + i], before, name);
            }
            return row[name.length];
        }

        private void turnRows() {
            int[] free = beforeLast;
            beforeLast = last;
            last = row;
            row = free;
        }

        private void fillRow(int letters, char sign, char before, Name name) {
            char[] named = name.letters;
            row[0] = letters;
            for (int j = 1; j <= name.length; j++) {
                int changed = last[j - 1] + (sign == named[j - 1] ? 0 : 1);
                int moved = Math.min(last[j], row[j - 1]) + 1;
                int least = Math.min(changed, moved);
                if (j > 1 && sign == named[j - 2] && before == named[j - 1]) {
                    least = Math.min(least, beforeLast[j - 2] + 1);
                }
                row[j] = least;
            }
        }
    }

    /** The nearest candidates: streets by their numbers, landmarks by theirs and MAX_STREETS more. */
    private static final class Ranking {
        private final int[] candidates = new int[MAX_PLACES];
        private final int[] distances = new int[MAX_PLACES];
        private int wanted;
        private int size;

        void begin(int k) {
            wanted = k;
            size = 0;
        }

        void offer(int candidate, int distance) {
            int at = size;
            while (at > 0 && distance < distances[at - 1]) {
                at--;
            }
            if (at >= wanted) {
                return;
            }
            if (size < wanted) {
                size++;
            }
            for (int i = size - 1; i > at; i--) {
                candidates[i] = candidates[i - 1];
                distances[i] = distances[i - 1];
            }
            candidates[at] = candidate;
            distances[at] = distance;
        }
    }

    private static final class Place {
        private int street;
        private int house;
        private int reason;
        private int distance;
        private int area;
        private int landmark;
    }
}
