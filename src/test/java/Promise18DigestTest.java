/** Promise 18: digest. */
final class Promise18DigestTest {
    private static final int[] FROST = {3, -1, 4, -1, 5, -9, 2};

    public static void main(String[] args) {
        EelPermits lake = new EelPermits();
        for (int night = 0; night < 7; night++) {
            lake.setFrost(night, FROST[night]);
        }
        Check.same("an empty lake", lake.digest(), toldBy(lake));
        Check.same("once more", lake.digest(), toldBy(lake));
        for (int c = 0; c < 81; c++) {
            lake.set(c % 9, c / 9, c * 11 % 61, c * 3 % 10);
        }
        Check.same("eels and mud", lake.digest(), toldBy(lake));
        lake.cut(6, 1);
        lake.cut(1, 6);
        lake.cut(0, 8);
        Check.same("holes", lake.digest(), toldBy(lake));
        lake.license(7, 3);
        lake.license(30, 0);
        lake.go(0, 1);
        lake.go(1, 0);
        Check.same("spearers", lake.digest(), toldBy(lake));
        lake.warden(8, 2, 3);
        lake.warden(3, 3, 1);
        Check.same("wardens", lake.digest(), toldBy(lake));
        lake.pass(3);
        Check.same("nights", lake.digest(), toldBy(lake));
        lake.pass(30);
        Check.same("many nights", lake.digest(), toldBy(lake));
        Check.end();
    }

    private static long toldBy(EelPermits lake) {
        long d = 1187;
        for (int what = 0; what < 9; what++) {
            d = d * 31 + lake.count(what);
        }
        for (int c = 0; c < 81; c++) {
            for (int what = 0; what < 4; what++) {
                d = d * 31 + lake.cell(c % 9, c / 9, what);
            }
        }
        for (int frost : FROST) {
            d = d * 31 + frost;
        }
        for (int h = 0; h < lake.count(4); h++) {
            for (int what = 0; what < 5; what++) {
                d = d * 31 + lake.hole(h, what);
            }
        }
        for (int s = 0; s < lake.count(6); s++) {
            for (int what = 0; what < 6; what++) {
                d = d * 31 + lake.spearer(s, what);
            }
        }
        for (int w = 0; hasWarden(lake, w); w++) {
            for (int what = 0; what < 4; what++) {
                d = d * 31 + lake.about(w, what);
            }
        }
        return d;
    }

    private static boolean hasWarden(EelPermits lake, int warden) {
        try {
            lake.about(warden, 0);
            return true;
        } catch (IndexOutOfBoundsException e) {
            return false;
        }
    }
}
