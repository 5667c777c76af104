/** Promise 9: hole. */
final class Promise09HoleTest {
    public static void main(String[] args) {
        EelPermits lake = new EelPermits();
        Check.badIndex(lake, "no hole yet", () -> lake.hole(0, 0));
        lake.cut(1, 6);
        lake.cut(8, 0);
        int[][] due = {{1, 6, 1, 0, -1}, {8, 0, 1, 0, -1}};
        for (int h = 0; h < 2; h++) {
            for (int what = 0; what < 5; what++) {
                Check.same("hole(" + h + ", " + what + ")", lake.hole(h, what), due[h][what]);
            }
        }
        lake.warden(8, 8, 1);
        Check.same("by x", lake.hole(0, 4), 7);
        Check.same("by y", lake.hole(1, 4), 8);
        lake.warden(2, 2, 1);
        Check.same("the nearer one", lake.hole(0, 4), 4);
        Check.same("the nearer one", lake.hole(1, 4), 6);
        lake.warden(1, 6, 1);
        Check.same("in the cell", lake.hole(0, 4), 0);
        Check.same("not the farther one", lake.hole(1, 4), 6);
        for (int s = 0; s < 3; s++) {
            lake.license(30, 0);
            lake.go(s, s / 2);
        }
        Check.same("two at 0", lake.hole(0, 3), 2);
        Check.same("one at 1", lake.hole(1, 3), 1);
        lake.go(2, -1);
        lake.pass(1);
        Check.same("0 is open", lake.hole(0, 2), 1);
        Check.same("1 is closed", lake.hole(1, 2), 0);
        Check.same("a closed one's warden", lake.hole(1, 4), 6);
        Check.same("a closed one's x", lake.hole(1, 0), 8);

        Check.badIndex(lake, "hole(-1, 0)", () -> lake.hole(-1, 0));
        Check.badIndex(lake, "hole(2, 0)", () -> lake.hole(2, 0));
        Check.badIndex(lake, "hole(0, -1)", () -> lake.hole(0, -1));
        Check.badIndex(lake, "hole(0, 5)", () -> lake.hole(0, 5));
        Check.end();
    }
}
