/** A night's step 4, "In each cell with 1 to 40 eels a tenth (cut) and 1 more come": on both sides of both ends. */
final class BoundsEelsTest {
    public static void main(String[] args) {
        int[][] beforeBehind = {
            {0, 0}, {1, 2}, {9, 10}, {10, 12}, {11, 13}, {19, 21}, {20, 23}, {29, 32}, {30, 34}, {39, 43}, {40, 45},
            {41, 41}, {59, 59}, {60, 60}};
        for (int[] row : beforeBehind) {
            Check.test("1 to 40 eels: " + row[0], () -> {
                EelPermits lake = Lakes.mild();
                lake.set(8, 8, row[0], 0);
                Check.same("foresee(1, 3)", lake.foresee(1, 3), row[1]);
                lake.pass(1);
                Check.same("eels", lake.cell(8, 8, 0), row[1]);
                Check.same("all eels of the lake", lake.count(3), row[1]);
            });
        }
        Check.test("in each cell", () -> {
            EelPermits lake = Lakes.mild();
            Lakes.setAllCells(lake, 40, 9);
            lake.pass(1);
            for (int c = 0; c < 81; c++) {
                Check.same("eels of " + c, lake.cell(c % 9, c / 9, 0), 45);
            }
        });
        Check.test("no more come behind 41", () -> {
            EelPermits lake = Lakes.mild();
            lake.set(0, 0, 40, 0);
            lake.pass(40);
            Check.same("eels", lake.cell(0, 0, 0), 45);
        });
        behindTheSpears();
        behindTheFines();
        Check.end();
    }

    private static void behindTheSpears() {
        Check.test("none come where the last one was taken", () -> {
            EelPermits lake = Lakes.mild();
            lake.set(4, 4, 2, 0);
            Lakes.spearerAt(lake, 30, 0, 4, 4);
            lake.pass(1);
            Check.same("eels", lake.cell(4, 4, 0), 0);
        });
        Check.test("some come where the most are left that a spear can leave", () -> {
            EelPermits lake = Lakes.mild();
            // 21 of 59 and 19 of 55 are taken
            lake.set(4, 4, 59, 9);
            lake.set(5, 5, 55, 9);
            Lakes.spearerAt(lake, 30, 0, 4, 4);
            Lakes.spearerAt(lake, 30, 0, 5, 5);
            lake.pass(1);
            Check.same("of 59", lake.cell(4, 4, 0), 38 + 4);
            Check.same("of 55", lake.cell(5, 5, 0), 36 + 4);
        });
    }

    /** All that is more than the permit comes back ahead of the eels that come. */
    private static void behindTheFines() {
        int[][] permitLeft = {{10, 40 + 5}, {9, 41}, {0, 50}};
        for (int[] row : permitLeft) {
            Check.test("counted behind what is given back: " + row[0] + " of 50 are kept", () -> {
                EelPermits lake = Lakes.mild();
                lake.set(4, 4, 50, 0);
                Lakes.spearerAt(lake, row[0], 0, 4, 4);
                lake.warden(4, 4, 1);
                lake.pass(1);
                Check.same("eels", lake.cell(4, 4, 0), row[1]);
            });
        }
    }
}
