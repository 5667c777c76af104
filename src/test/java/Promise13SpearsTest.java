/** Promise 13 and steps 2 and 4 of a night: catches, eels in all, and the eels that come. */
final class Promise13SpearsTest {
    public static void main(String[] args) {
        EelPermits lake = Lakes.mild();
        Check.badArgument(lake, "pass(0)", () -> lake.pass(0));
        Check.badArgument(lake, "pass(41)", () -> lake.pass(41));
        Check.badArgument(lake, "pass(-1)", () -> lake.pass(-1));
        Check.badArgument(lake, "pass(MAX)", () -> lake.pass(Integer.MAX_VALUE));
        catchesOfOneCell();
        oneBehindTheOther();
        eelsComeByTenths();
        manyNights();
        Check.end();
    }

    private static void catchesOfOneCell() {
        int[][] eelsMudCatch = {{30, 3, 13}, {1, 0, 1}, {0, 0, 0}, {5, 9, 0}, {60, 0, 31}, {3, 2, 0}, {2, 0, 2}};
        for (int[] row : eelsMudCatch) {
            EelPermits lake = Lakes.mild();
            lake.set(7, 7, row[0], row[1]);
            lake.license(30, 0);
            lake.go(0, lake.cut(7, 7));
            int due = Math.min(30, row[2]);
            Check.same("pass(1) with " + row[0], lake.pass(1), row[2]);
            Check.same("catch", lake.spearer(0, 3), row[2]);
            Check.same("eels in all", lake.spearer(0, 4), row[2]);
            int left = row[0] - row[2];
            Check.same("left", lake.cell(7, 7, 0), left == 0 ? 0 : left + left / 10 + 1);
        }
    }

    private static void oneBehindTheOther() {
        EelPermits lake = Lakes.mild();
        lake.set(2, 3, 30, 1);
        lake.cut(2, 3);
        for (int s = 0; s < 3; s++) {
            lake.license(30, 0);
        }
        lake.go(2, 0);
        lake.go(0, 0);
        Check.same("pass(1)", lake.pass(1), 15 + 7);
        Check.same("the first one", lake.spearer(0, 3), 15);
        Check.same("the one at none", lake.spearer(1, 3), 0);
        Check.same("the last one", lake.spearer(2, 3), 7);
        lake.go(0, -1);
        Check.same("8 and 1 were there", lake.pass(1), 4);
        Check.same("no hole, no catch", lake.spearer(0, 3), 0);
        Check.same("but the eels in all", lake.spearer(0, 4), 15);
        Check.same("eels in all", lake.spearer(2, 4), 11);
    }

    private static void eelsComeByTenths() {
        EelPermits lake = Lakes.mild();
        int[][] beforeAfter = {{0, 0}, {1, 2}, {9, 10}, {10, 12}, {19, 21}, {20, 23}, {39, 43}, {40, 45}, {41, 41},
            {60, 60}};
        for (int i = 0; i < beforeAfter.length; i++) {
            lake.set(i % 9, i / 9 * 8, beforeAfter[i][0], 0);
        }
        lake.pass(1);
        for (int i = 0; i < beforeAfter.length; i++) {
            Check.same("from " + beforeAfter[i][0], lake.cell(i % 9, i / 9 * 8, 0), beforeAfter[i][1]);
        }
    }

    private static void manyNights() {
        EelPermits lake = Lakes.mild();
        EelPermits slow = Lakes.mild();
        EelPermits[] both = {lake, slow};
        for (EelPermits each : both) {
            each.set(1, 1, 60, 1);
            each.set(2, 2, 33, 3);
            each.license(5, 2);
            each.license(12, 0);
            each.go(0, each.cut(1, 1));
            each.go(1, each.cut(2, 1));
            each.warden(8, 8, 2);
        }
        int sum = 0;
        for (int night = 0; night < 40; night++) {
            sum += slow.pass(1);
        }
        Check.same("pass(40)", lake.pass(40), sum);
        Check.same("the night", lake.count(0), 40);
        Check.same("what was kept is all there is", sum, lake.spearer(0, 4) + lake.spearer(1, 4));
        Check.same("digest()", lake.digest(), slow.digest());
    }
}
