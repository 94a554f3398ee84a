/** Promise 12: near. */
public final class Promise12NearTest {
    public static void main(String[] args) {
        tellsTheNearestFirstPoint();
        comparesWaysAcrossTheMap();
        tellsTheLowestOfTheSame();
        tellsNoneWithoutStreets();
        refusesOtherCoordinates();
        Check.end();
    }

    private static AddressWords withFirstPoints(int[]... points) {
        AddressWords x = Check.withStreets(points.length);
        for (int i = 0; i < points.length; i++) {
            x.line(i, points[i][0], points[i][1], -points[i][1], points[i][0]);
        }
        return x;
    }

    private static void tellsTheNearestFirstPoint() {
        Check.sentence("Promise 12", "The street whose first point is nearest to one");
        AddressWords x = withFirstPoints(new int[] {-100, -100}, new int[] {0, 0}, new int[] {10, 0});
        Check.answers("at a first point", 1, () -> x.near(0, 0));
        Check.answers("a little nearer", 2, () -> x.near(6, 0));
        Check.answers("the other point does not count", 1, () -> x.near(0, 10));
        Check.answers("far below", 0, () -> x.near(-9999, -9999));
        x.close(0, true);
        Check.answers("a closed one too", 0, () -> x.near(-100, -100));
        // The sums of these are 14, 9 and 12, the squares of the ways 98, 81 and 72.
        AddressWords ways = withFirstPoints(new int[] {7, 7}, new int[] {0, 9}, new int[] {-6, -6});
        Check.answers("ways as the crow flies", 2, () -> ways.near(0, 0));
        AddressWords longer = withFirstPoints(new int[] {0, 10}, new int[] {8, 5});
        Check.answers("8 and 5 are nearer than 10", 1, () -> longer.near(0, 0));
    }

    private static void comparesWaysAcrossTheMap() {
        Check.sentence("Promise 12", "nearest to one");
        AddressWords x = withFirstPoints(new int[] {9999, 9999}, new int[] {9999, 9998}, new int[] {9998, 9999});
        Check.answers("the longest way is not the nearest", 1, () -> x.near(-9999, -9999));
        Check.answers("at the first", 0, () -> x.near(9999, 9999));
        AddressWords one = withFirstPoints(new int[] {9999, -9999});
        Check.answers("the only one, as far as can be", 0, () -> one.near(-9999, 9999));
        AddressWords last = Check.withStreets(30);
        for (int i = 0; i < 29; i++) {
            last.line(i, 9999, 9999, 0, 0);
        }
        Check.answers("the last of 30", 29, () -> last.near(-9999, -9999));
    }

    private static void tellsTheLowestOfTheSame() {
        Check.sentence("Promise 12", "of the same the lowest");
        AddressWords bare = Check.withStreets(30);
        Check.answers("all at 0, 0", 0, () -> bare.near(-5, 5));
        AddressWords x = withFirstPoints(new int[] {50, 50}, new int[] {0, 5}, new int[] {3, 4}, new int[] {-5, 0},
            new int[] {0, 0}, new int[] {0, 0});
        Check.answers("at 0, 0", 4, () -> x.near(0, 0));
        x.line(4, 50, 50, 0, 0);
        x.line(5, 50, 50, 0, 0);
        Check.answers("three at 5 metres", 1, () -> x.near(0, 0));
        x.line(1, 50, 50, 0, 0);
        Check.answers("two at 5 metres", 2, () -> x.near(0, 0));
        Check.answers("four at one point", 0, () -> x.near(9999, 9999));
    }

    private static void tellsNoneWithoutStreets() {
        Check.sentence("Promise 12", "-1 without streets");
        AddressWords x = new AddressWords();
        Check.answers("the middle", -1, () -> x.near(0, 0));
        Check.answers("a corner of the map", -1, () -> x.near(9999, -9999));
        Check.answers("another corner", -1, () -> x.near(-9999, 9999));
        x.street(0);
        Check.answers("with one", 0, () -> x.near(9999, -9999));
    }

    private static void refusesOtherCoordinates() {
        Check.sentence("Promise 12", "IndexOutOfBoundsException: a coordinate is not so");
        AddressWords without = new AddressWords();
        AddressWords x = Check.withStreets(1);
        for (int bad : Check.outside(-9999, 9999)) {
            Check.refuses("x " + bad, Check.INDEX, () -> x.near(bad, 0));
            Check.refuses("y " + bad, Check.INDEX, () -> x.near(0, bad));
            Check.refuses("both " + bad, Check.INDEX, () -> x.near(bad, bad));
            Check.refuses("x " + bad + " without streets", Check.INDEX, () -> without.near(bad, 0));
            Check.refuses("y " + bad + " without streets", Check.INDEX, () -> without.near(0, bad));
        }
    }
}
