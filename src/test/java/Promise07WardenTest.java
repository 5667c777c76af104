/** Promise 7: warden. */
final class Promise07WardenTest {
    public static void main(String[] args) {
        EelPermits lake = new EelPermits();
        Check.badIndex(lake, "warden(-1, 0, 1)", () -> lake.warden(-1, 0, 1));
        Check.badIndex(lake, "warden(9, 0, 1)", () -> lake.warden(9, 0, 1));
        Check.badIndex(lake, "warden(0, -1, 1)", () -> lake.warden(0, -1, 1));
        Check.badIndex(lake, "warden(0, 9, 1)", () -> lake.warden(0, 9, 1));
        Check.badIndex(lake, "the index first", () -> lake.warden(0, 9, 0));
        Check.badArgument(lake, "warden(0, 0, 0)", () -> lake.warden(0, 0, 0));
        Check.badArgument(lake, "warden(0, 0, 9)", () -> lake.warden(0, 0, 9));
        int[][] due = {{0, 8, 1, 0}, {8, 0, 8, 0}, {3, 5, 4, 0}};
        for (int w = 0; w < 3; w++) {
            Check.same("warden", lake.warden(due[w][0], due[w][1], due[w][2]), w);
        }
        for (int w = 0; w < 3; w++) {
            for (int what = 0; what < 4; what++) {
                Check.same("about(" + w + ", " + what + ")", lake.about(w, what), due[w][what]);
            }
        }
        Check.badState(lake, "a 4th warden", () -> lake.warden(0, 0, 1));
        Check.badArgument(lake, "the argument before the state", () -> lake.warden(0, 0, 9));
        Check.badIndex(lake, "the index before all", () -> lake.warden(9, 0, 9));
        Check.end();
    }
}
