/** Promise 1: a new object. */
final class Promise01NewTest {
    public static void main(String[] args) {
        EelPermits lake = new EelPermits();
        int[] due = {0, 20, 1, 0, 0, 0, 0, 0, 0};
        for (int what = 0; what < due.length; what++) {
            Check.same("count(" + what + ")", lake.count(what), due[what]);
        }
        for (int y = 0; y < 9; y++) {
            for (int x = 0; x < 9; x++) {
                Check.same("eels", lake.cell(x, y, 0), 0);
                Check.same("mud", lake.cell(x, y, 1), 2);
                Check.same("open hole", lake.cell(x, y, 2), -1);
                Check.same("catch", lake.cell(x, y, 3), 0);
            }
        }
        for (int night = 0; night < 7; night++) {
            Check.same("frost " + night, lake.setFrost(night, 2), 2);
        }
        Check.badIndex(lake, "hole(0, 0)", () -> lake.hole(0, 0));
        Check.badIndex(lake, "spearer(0, 0)", () -> lake.spearer(0, 0));
        Check.badIndex(lake, "about(0, 0)", () -> lake.about(0, 0));
        Check.same("bears()", lake.bears(), -1);
        Check.same("mean()", lake.mean(), 0.0);
        Check.same("pass(1)", lake.pass(1), 0);
        Check.same("eels of an empty lake", lake.count(3), 0);
        twoLakesShareNothing();
        Check.end();
    }

    private static void twoLakesShareNothing() {
        EelPermits one = new EelPermits();
        EelPermits other = new EelPermits();
        long before = other.digest();
        one.set(1, 1, 50, 5);
        one.setFrost(3, -7);
        one.cut(2, 2);
        one.license(4, 1);
        one.warden(3, 3, 3);
        one.pass(2);
        Check.same("the other lake", other.digest(), before);
    }
}
