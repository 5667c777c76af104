/** Promise 5: license. */
final class Promise05LicenseTest {
    public static void main(String[] args) {
        EelPermits lake = new EelPermits();
        Check.badArgument(lake, "license(-1, 0)", () -> lake.license(-1, 0));
        Check.badArgument(lake, "license(31, 0)", () -> lake.license(31, 0));
        Check.badArgument(lake, "license(0, -1)", () -> lake.license(0, -1));
        Check.badArgument(lake, "license(0, 5)", () -> lake.license(0, 5));
        int[] permits = {0, 30, 7, 1, 2, 3, 4, 5};
        int[] lights = {4, 0, 3, 1, 2, 0, 1, 2};
        for (int s = 0; s < 8; s++) {
            Check.same("license", lake.license(permits[s], lights[s]), s);
            int[] due = {permits[s], lights[s], -1, 0, 0, 0};
            for (int what = 0; what < 6; what++) {
                Check.same("spearer(" + s + ", " + what + ")", lake.spearer(s, what), due[what]);
            }
        }
        Check.badState(lake, "a 9th spearer", () -> lake.license(0, 0));
        Check.badArgument(lake, "the argument first", () -> lake.license(31, 0));
        Check.end();
    }
}
