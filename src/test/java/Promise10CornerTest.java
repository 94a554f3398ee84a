public final class Promise10CornerTest {
    public static void main(String[] args) {
        AddressWords x = new AddressWords();
        for (int i = 0; i < 4; i++) {
            x.street(0);
            x.line(i, 0, 0, 100, 0);
        }
        x.meet(0, 1, 5, 6);
        x.meet(2, 0, 7, 8);
        x.meet(3, 1, 0, 100);
        int[][] due = {{-1, 5, 8, -1}, {6, -1, -1, 100}, {7, -1, -1, -1}, {-1, 0, -1, -1}};
        for (int i = 0; i < 4; i++) {
            for (int j = 0; j < 4; j++) {
                int street = i;
                int other = j;
                Check.answers("corner " + i + " of " + j, due[i][j], () -> x.corner(street, other));
            }
        }
        for (int bad : new int[] {Integer.MIN_VALUE, -1, 4, Integer.MAX_VALUE}) {
            Check.refuses("street " + bad, Check.ARGUMENT, () -> x.corner(bad, 0));
            Check.refuses("other " + bad, Check.ARGUMENT, () -> x.corner(0, bad));
        }
        Check.end();
    }
}
