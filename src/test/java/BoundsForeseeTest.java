/** Promise 15: each number of nights from the least to the greatest, and that nothing is changed. */
final class BoundsForeseeTest {
    private static final int[] FORESEEN = {1, 3, 5, 7, 8};

    public static void main(String[] args) {
        int[] some = {1, 2, 6, 7, 8, 39, 40};
        for (int nights : some) {
            for (int what : FORESEEN) {
                Check.test("behind " + nights + " nights, count(" + what + ")", () -> {
                    EelPermits lake = lively();
                    EelPermits later = lively();
                    later.pass(nights);
                    Check.same("foresee", lake.foresee(nights, what), later.count(what));
                });
            }
            Check.test("nothing is changed: " + nights + " nights", () -> {
                EelPermits lake = lively();
                for (int what : FORESEEN) {
                    lake.foresee(nights, what);
                }
                Check.same("digest()", lake.digest(), lively().digest());
            });
        }
        aNewLake();
        aFullLake();
        wardensOnTheirWay();
        Check.end();
    }

    private static void aNewLake() {
        int[] due = {90, 0, 0, 0, 0};
        for (int i = 0; i < FORESEEN.length; i++) {
            int what = FORESEEN[i];
            int answer = due[i];
            Check.test("a new lake behind 40 nights, count(" + what + ")",
                () -> Check.same("foresee", new EelPermits().foresee(40, what), answer));
        }
        Check.test("behind a thaw: no open holes", () -> {
            EelPermits lake = Lakes.full();
            lake.setFrost(1, -16);
            Check.same("foresee(1, 5)", lake.foresee(1, 5), 12);
            Check.same("foresee(2, 5)", lake.foresee(2, 5), 0);
            Check.same("count(5)", lake.count(5), 12);
        });
    }

    private static void aFullLake() {
        Check.test("all that it holds is thought of: eels, fines and the nights behind", () -> {
            EelPermits lake = Lakes.full();
            Lakes.setAllCells(lake, 60, 0);
            lake.pass(40);
            EelPermits later = Lakes.full();
            Lakes.setAllCells(later, 60, 0);
            later.pass(40);
            later.pass(40);
            for (int what : FORESEEN) {
                Check.same("foresee(40, " + what + ")", lake.foresee(40, what), later.count(what));
            }
        });
        Check.test("what one thought leaves behind is not in the next", () -> {
            EelPermits lake = lively();
            lake.foresee(40, 7);
            lake.advise(2);
            Check.same("foresee(1, 7)", lake.foresee(1, 7), lively().foresee(1, 7));
            Check.same("foresee(1, 1)", lake.foresee(1, 1), lively().foresee(1, 1));
        });
    }

    /** The warden is 8 cells away, and each night one who may keep none catches some. */
    private static void wardensOnTheirWay() {
        int[][] paceNights = {{1, 8}, {2, 4}, {3, 3}, {4, 2}, {7, 2}, {8, 1}};
        for (int[] row : paceNights) {
            Check.test("a warden of pace " + row[0] + " is there behind " + row[1] + " nights", () -> {
                EelPermits lake = Lakes.mild();
                lake.set(8, 8, 40, 9);
                Lakes.spearerAt(lake, 0, 0, 8, 8);
                lake.warden(0, 0, row[0]);
                if (row[1] > 1) {
                    Check.same("a night less, fines", lake.foresee(row[1] - 1, 8), 0);
                }
                Check.same("fines", lake.foresee(row[1], 8), 1);
                Check.same("a night more, fines", lake.foresee(row[1] + 1, 8), 2);
                Check.same("the warden stays meanwhile", lake.about(0, 0), 0);
            });
        }
    }

    /** In the night 3, with fines, with a closed hole and with frosts of both kinds to come. */
    private static EelPermits lively() {
        EelPermits lake = Lakes.mild();
        int[] frost = {2, 0, -3, 0, 1, -2, 3};
        for (int night = 0; night < 7; night++) {
            lake.setFrost(night, frost[night]);
        }
        for (int c = 0; c < 81; c += 3) {
            lake.set(c % 9, c / 9, c * 5 % 61, c % 5);
        }
        lake.cut(8, 8);
        for (int s = 0; s < 3; s++) {
            Lakes.spearerAt(lake, 3 * s, 4 - s, 2 + 2 * s, 3 + s);
        }
        lake.warden(0, 0, 1);
        lake.warden(8, 8, 3);
        lake.pass(3);
        return lake;
    }
}
