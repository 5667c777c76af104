/** Promise 18: digest. */
final class Promise18DigestTest {
    private static final int[] FROST = {3, -1, 4, -1, 5, -9, 2};

    private static final int STAGES = 7;

    public static void main(String[] args) {
        for (int stage = 0; stage < STAGES; stage++) {
            Check.same("digest() of stage " + stage, lakeOf(stage).digest(), toldBy(stage));
        }
        EelPermits lake = lakeOf(STAGES - 1);
        Check.same("once more", lake.digest(), lake.digest());
        Check.end();
    }

    /** Each stage adds to the one before: frosts, eels and mud, holes, spearers, wardens, nights, many nights. */
    private static EelPermits lakeOf(int stage) {
        EelPermits lake = new EelPermits();
        for (int night = 0; night < 7; night++) {
            lake.setFrost(night, FROST[night]);
        }
        for (int c = 0; c < 81 && stage >= 1; c++) {
            lake.set(c % 9, c / 9, c * 11 % 61, c * 3 % 10);
        }
        if (stage >= 2) {
            lake.cut(6, 1);
            lake.cut(1, 6);
            lake.cut(0, 8);
        }
        if (stage >= 3) {
            lake.license(7, 3);
            lake.license(30, 0);
            lake.go(0, 1);
            lake.go(1, 0);
        }
        if (stage >= 4) {
            lake.warden(8, 2, 3);
            lake.warden(3, 3, 1);
        }
        if (stage >= 5) {
            lake.pass(3);
        }
        if (stage >= 6) {
            lake.pass(30);
        }
        return lake;
    }

    /** Cells are told by a lake of their own, as one lake answers 512 calls alone. */
    private static long toldBy(int stage) {
        EelPermits lake = lakeOf(stage);
        EelPermits cells = lakeOf(stage);
        long d = 1187;
        for (int what = 0; what < 9; what++) {
            d = d * 31 + lake.count(what);
        }
        for (int c = 0; c < 81; c++) {
            for (int what = 0; what < 4; what++) {
                d = d * 31 + cells.cell(c % 9, c / 9, what);
            }
        }
        for (int frost : FROST) {
            d = d * 31 + frost;
        }
        for (int h = 0; h < lake.count(4); h++) {
            for (int what = 0; what < 5; what++) {
                d = d * 31 + lake.hole(h, what);
            }
        }
        for (int s = 0; s < lake.count(6); s++) {
            for (int what = 0; what < 6; what++) {
                d = d * 31 + lake.spearer(s, what);
            }
        }
        for (int w = 0; hasWarden(lake, w); w++) {
            for (int what = 0; what < 4; what++) {
                d = d * 31 + lake.about(w, what);
            }
        }
        return d;
    }

    private static boolean hasWarden(EelPermits lake, int warden) {
        try {
            lake.about(warden, 0);
            return true;
        } catch (IndexOutOfBoundsException e) {
            return false;
        }
    }
}
