/** Promise 12: count. */
final class Promise12CountTest {
    public static void main(String[] args) {
        EelPermits lake = new EelPermits();
        lake.setFrost(1, -18);
        lake.set(0, 0, 60, 0);
        lake.set(8, 8, 50, 1);
        lake.set(8, 0, 5, 9);
        lake.cut(0, 0);
        lake.cut(8, 8);
        lake.cut(8, 0);
        for (int s = 0; s < 4; s++) {
            lake.license(10, 0);
        }
        lake.go(0, 0);
        lake.go(1, 1);
        lake.go(2, 1);
        lake.warden(8, 8, 1);
        counts(lake, 0, 20, 1, 115, 3, 3, 4, 0, 0);
        // 0 spears 31; 1 spears 25 and 2 spears 12, and the warden leaves 10 to each of them
        Check.same("pass(1)", lake.pass(1), 51);
        counts(lake, 1, 22, 1, 32 + 34 + 6, 3, 2, 4, 51, 2);
        Check.same("pass(1)", lake.pass(1), 17 + 10 + 8);
        counts(lake, 2, 4, 0, 17 + 18 + 7, 3, 0, 4, 86, 3);
        Check.badIndex(lake, "count(-1)", () -> lake.count(-1));
        Check.badIndex(lake, "count(9)", () -> lake.count(9));
        Check.badIndex(lake, "count(MIN)", () -> lake.count(Integer.MIN_VALUE));
        Check.end();
    }

    private static void counts(EelPermits lake, int... due) {
        for (int what = 0; what < due.length; what++) {
            Check.same("count(" + what + ")", lake.count(what), due[what]);
        }
    }
}
