/**
 * A night's step 5 where holes close: ice that just bears and that just does not, a frost of just more than 0, a hole
 * at which just one is, and ice that is held at its ends.
 */
final class BoundsClosingTest {
    public static void main(String[] args) {
        iceThatJustBears();
        frostOfJustMoreThanZero();
        oneAtTheHole();
        atTheEndsOfTheIce();
        Check.end();
    }

    /** The hole 0 with a spearer, and the hole 1 without one, in ice of 20 and in the night 0. */
    private static EelPermits twoHoles() {
        EelPermits lake = Lakes.mild();
        lake.set(3, 3, 20, 0);
        Lakes.spearerAt(lake, 30, 0, 3, 3);
        lake.cut(6, 6);
        return lake;
    }

    private static void iceThatJustBears() {
        Check.test("ice of 5 bears: all holes stay, and all spearers at them", () -> {
            EelPermits lake = twoHoles();
            lake.setFrost(0, -15);
            lake.pass(1);
            Check.same("open ones", lake.count(5), 2);
            Check.same("hole of the spearer", lake.spearer(0, 2), 0);
        });
        Check.test("ice of 4 does not: all holes are closed", () -> {
            EelPermits lake = twoHoles();
            lake.setFrost(0, -16);
            Check.same("foresee(1, 5)", lake.foresee(1, 5), 0);
            lake.pass(1);
            Check.same("open ones", lake.count(5), 0);
            Check.same("holes in all", lake.count(4), 2);
        });
        Check.test("ice of 4 does not: all spearers are at none", () -> {
            EelPermits lake = twoHoles();
            lake.setFrost(0, -16);
            lake.pass(1);
            Check.same("hole of the spearer", lake.spearer(0, 2), -1);
            Check.same("spearers at it", lake.hole(0, 3), 0);
        });
        Check.test("ice of 4 does not: the catch of the night is kept", () -> {
            EelPermits lake = twoHoles();
            lake.setFrost(0, -16);
            Check.same("pass(1)", lake.pass(1), 11);
            Check.same("catch", lake.spearer(0, 3), 11);
        });
        Check.test("ice of 4 closes all 12, and sends all 8 away", () -> {
            EelPermits lake = Lakes.full();
            lake.setFrost(0, -16);
            lake.pass(1);
            for (int h = 0; h < 12; h++) {
                Check.same("hole(" + h + ", 2)", lake.hole(h, 2), 0);
            }
            for (int s = 0; s < 8; s++) {
                Check.same("spearer(" + s + ", 2)", lake.spearer(s, 2), -1);
            }
        });
        Check.test("the ice behind the night counts, not ahead of it", () -> {
            EelPermits lake = twoHoles();
            lake.setFrost(0, -15);
            lake.setFrost(1, -1);
            lake.pass(1);
            Check.same("open with 5", lake.count(5), 2);
            lake.pass(1);
            Check.same("open with 4", lake.count(5), 0);
        });
    }

    private static void frostOfJustMoreThanZero() {
        int[][] frostOpen = {{-15, 1}, {-1, 1}, {0, 1}, {1, 0}, {20, 0}};
        for (int[] row : frostOpen) {
            Check.test("a hole at which nobody is, with a frost of " + row[0], () -> {
                EelPermits lake = twoHoles();
                lake.setFrost(0, row[0]);
                Check.same("foresee(1, 5)", lake.foresee(1, 5), 1 + row[1]);
                lake.pass(1);
                Check.same("hole(1, 2)", lake.hole(1, 2), row[1]);
            });
            Check.test("a hole at which somebody is, with a frost of " + row[0], () -> {
                EelPermits lake = twoHoles();
                lake.setFrost(0, row[0]);
                lake.pass(1);
                Check.same("hole(0, 2)", lake.hole(0, 2), 1);
                Check.same("spearer(0, 2)", lake.spearer(0, 2), 0);
            });
        }
        Check.test("a frost of more than 0 in the last night of the table", () -> {
            EelPermits lake = twoHoles();
            lake.setFrost(6, 1);
            lake.pass(6);
            Check.same("open ahead of it", lake.count(5), 2);
            lake.pass(1);
            Check.same("open behind it", lake.count(5), 1);
        });
    }

    private static void oneAtTheHole() {
        Check.test("all 12 close but the one at which one is", () -> {
            EelPermits lake = Lakes.withSpearers(8);
            lake.setFrost(0, 1);
            lake.go(7, 11);
            lake.pass(1);
            Check.same("open ones", lake.count(5), 1);
            Check.same("hole(11, 2)", lake.hole(11, 2), 1);
        });
        Check.test("all 12 close when all have gone", () -> {
            EelPermits lake = Lakes.withSpearers(8);
            lake.setFrost(0, 1);
            lake.go(7, 11);
            lake.go(7, -1);
            lake.pass(1);
            Check.same("open ones", lake.count(5), 0);
        });
        Check.test("a hole stays open while one of two has gone", () -> {
            EelPermits lake = Lakes.withSpearers(2);
            lake.setFrost(0, 1);
            lake.go(0, 5);
            lake.go(1, 5);
            lake.go(0, -1);
            lake.pass(1);
            Check.same("hole(5, 2)", lake.hole(5, 2), 1);
        });
        Check.test("a hole without a catch stays open", () -> {
            EelPermits lake = Lakes.withSpearers(1);
            lake.setFrost(0, 20);
            lake.go(0, 0);
            Check.same("pass(1)", lake.pass(1), 0);
            Check.same("hole(0, 2)", lake.hole(0, 2), 1);
        });
    }

    private static void atTheEndsOfTheIce() {
        Check.test("a frost of more than 0 closes, though the ice is held at 90", () -> {
            EelPermits lake = Lakes.withIce(90);
            lake.cut(3, 3);
            lake.setFrost(lake.count(0) % 7, 1);
            lake.pass(1);
            Check.same("ice", lake.count(1), 90);
            Check.same("hole(0, 2)", lake.hole(0, 2), 0);
        });
        Check.test("a frost of 0 with ice of 90 closes none", () -> {
            EelPermits lake = Lakes.withIce(90);
            lake.cut(3, 3);
            lake.pass(1);
            Check.same("hole(0, 2)", lake.hole(0, 2), 1);
        });
        Check.test("a frost of 0 with ice of 5 closes none", () -> {
            EelPermits lake = Lakes.withIce(5);
            lake.cut(3, 3);
            lake.pass(40);
            Check.same("hole(0, 2)", lake.hole(0, 2), 1);
        });
        Check.test("a thaw from 90 to 70 closes none", () -> {
            EelPermits lake = Lakes.withIce(90);
            lake.cut(3, 3);
            lake.setFrost(lake.count(0) % 7, -20);
            lake.pass(1);
            Check.same("hole(0, 2)", lake.hole(0, 2), 1);
        });
    }
}
