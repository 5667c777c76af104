/**
 * A night's step 1, "Lamps": the last cell within the light and the first outside it, cells with fewer than 2 eels, a
 * cell with room for fewer than 2, the lake's edges, the order of cells and of spearers. Cells with more than 40 eels
 * have as many behind the night as the lamps left there.
 */
final class BoundsLampsTest {
    public static void main(String[] args) {
        light();
        lightOverTheEdges();
        asFarAsThereAreSome();
        asFarAsThereIsRoom();
        cellsByRows();
        spearersByNumbers();
        onlyThoseAtAHole();
        Check.end();
    }

    /** From 0, 4 along x, along y and on the diagonal: the last lit cell, and the first dark one. */
    private static void light() {
        int[][] ways = {{1, 0}, {0, 1}, {1, 1}, {-1, 0}, {0, -1}, {-1, -1}, {1, -1}, {-1, 1}};
        for (int light = 0; light <= 4; light++) {
            for (int[] way : ways) {
                int most = light;
                if (most > 0) {
                    Check.test("light " + most + " reaches " + most + " cells by " + way[0] + ", " + way[1],
                        () -> Check.same("eels", litFrom(most, most, way), 48));
                }
                Check.test("light " + most + " does not reach one more by " + way[0] + ", " + way[1],
                    () -> Check.same("eels", litFrom(most, most + 1, way), 50));
            }
        }
        Check.test("light 4 does not reach by the lesser difference", () -> {
            EelPermits lake = Lakes.mild();
            Lakes.setAllCells(lake, 50, 0);
            lake.set(0, 8, 0, 9);
            Lakes.spearerAt(lake, 30, 4, 0, 8);
            lake.pass(1);
            Check.same("4 away by x, 0 by y", lake.cell(4, 8, 0), 48);
            Check.same("5 away by x, 0 by y", lake.cell(5, 8, 0), 50);
            Check.same("4 away by x, 4 by y", lake.cell(4, 4, 0), 48);
            Check.same("4 away by x, 5 by y", lake.cell(4, 3, 0), 50);
        });
    }

    /** What is left of the 50 eels of a cell so many cells away from the hole, as far as the lake is wide enough. */
    private static int litFrom(int light, int far, int[] way) {
        EelPermits lake = Lakes.mild();
        int x = way[0] > 0 ? 0 : way[0] < 0 ? 8 : 4;
        int y = way[1] > 0 ? 0 : way[1] < 0 ? 8 : 4;
        lake.set(x + far * way[0], y + far * way[1], 50, 0);
        Lakes.spearerAt(lake, 30, light, x, y);
        lake.pass(1);
        return lake.cell(x + far * way[0], y + far * way[1], 0);
    }

    private static void lightOverTheEdges() {
        int[][] corners = {{0, 0}, {8, 0}, {0, 8}, {8, 8}};
        for (int[] corner : corners) {
            Check.test("light 4 over the corner " + corner[0] + ", " + corner[1], () -> {
                EelPermits lake = Lakes.mild();
                Lakes.setAllCells(lake, 50, 0);
                lake.set(corner[0], corner[1], 0, 9);
                Lakes.spearerAt(lake, 30, 4, corner[0], corner[1]);
                lake.pass(1);
                int lit = 0;
                for (int c = 0; c < 81; c++) {
                    lit += lake.cell(c % 9, c / 9, 0) == 48 ? 1 : 0;
                }
                Check.same("cells that gave 2", lit, 24);
                // 48 come, 24 + 1 - 9 are taken
                Check.same("catch", lake.spearer(0, 3), 16);
            });
        }
    }

    private static void asFarAsThereAreSome() {
        // eels in the cell beside, what they are behind the night, the catch of 50 and those that came, what is left
        int[][] besideBehindCatchLeft = {
            {0, 0, 17, 33 + 4}, {1, 0, 17, 34 + 4}, {2, 0, 18, 34 + 4}, {3, 2, 18, 34 + 4}, {60, 58, 18, 34 + 4}};
        for (int[] row : besideBehindCatchLeft) {
            Check.test("as far as there are some: " + row[0], () -> {
                EelPermits lake = Lakes.mild();
                lake.set(4, 4, 50, 9);
                lake.set(5, 5, row[0], 0);
                Lakes.spearerAt(lake, 30, 1, 4, 4);
                Check.same("pass(1)", lake.pass(1), row[2]);
                Check.same("left where they came from", lake.cell(5, 5, 0), row[1]);
                Check.same("left at the hole", lake.cell(4, 4, 0), row[3]);
            });
        }
    }

    private static void asFarAsThereIsRoom() {
        int[][] thereLeftOfFifty = {{60, 50}, {59, 49}, {58, 48}, {57, 48}};
        for (int[] row : thereLeftOfFifty) {
            Check.test("room for them, 60 at most: " + row[0] + " are there", () -> {
                EelPermits lake = Lakes.mild();
                lake.set(4, 4, row[0], 9);
                lake.set(5, 5, 50, 0);
                Lakes.spearerAt(lake, 30, 1, 4, 4);
                lake.pass(1);
                Check.same("left where they came from", lake.cell(5, 5, 0), row[1]);
                int then = row[0] + 50 - row[1];
                int left = then - (then / 2 + 1 - 9);
                Check.same("left at the hole", lake.cell(4, 4, 0), left + left / 10 + 1);
            });
        }
        Check.test("room for them: none is left behind the first 30 cells", () -> {
            EelPermits lake = Lakes.mild();
            Lakes.setAllCells(lake, 50, 0);
            lake.set(4, 4, 0, 9);
            Lakes.spearerAt(lake, 30, 4, 4, 4);
            lake.pass(1);
            Check.same("the 30th cell", lake.cell(2, 3, 0), 48);
            Check.same("the 31st cell", lake.cell(3, 3, 0), 50);
        });
    }

    /** There is room for 2 of the 4 eels that two cells would give. */
    private static void cellsByRows() {
        int[][] pairs = {
            {5, 3, 3, 4}, {3, 3, 4, 3}, {4, 3, 5, 3}, {3, 4, 5, 4}, {5, 4, 3, 5}, {3, 5, 4, 5}, {4, 5, 5, 5},
            {4, 3, 4, 5}};
        for (int[] pair : pairs) {
            Check.test("cells by rows: " + pair[0] + ", " + pair[1] + " ahead of " + pair[2] + ", " + pair[3], () -> {
                EelPermits lake = Lakes.mild();
                lake.set(4, 4, 58, 9);
                lake.set(pair[0], pair[1], 50, 0);
                lake.set(pair[2], pair[3], 50, 0);
                Lakes.spearerAt(lake, 30, 1, 4, 4);
                lake.pass(1);
                Check.same("the first", lake.cell(pair[0], pair[1], 0), 48);
                Check.same("the second", lake.cell(pair[2], pair[3], 0), 50);
            });
        }
    }

    private static void spearersByNumbers() {
        for (int there = 2; there <= 4; there++) {
            int eels = there;
            Check.test("by numbers: the first of two lamps is ahead, with " + eels + " eels between", () -> {
                EelPermits lake = Lakes.mild();
                lake.set(2, 4, 0, 0);
                lake.set(4, 4, 0, 0);
                lake.set(3, 4, eels, 0);
                Lakes.spearerAt(lake, 30, 1, 4, 4);
                Lakes.spearerAt(lake, 30, 1, 2, 4);
                lake.pass(1);
                Check.same("the first", lake.spearer(0, 3), 2);
                Check.same("the second", lake.spearer(1, 3), eels - 2);
            });
        }
        Check.test("by numbers, not by holes", () -> {
            EelPermits lake = Lakes.mild();
            lake.set(2, 4, 0, 0);
            lake.set(4, 4, 0, 0);
            lake.set(3, 4, 2, 0);
            int hole = lake.cut(2, 4);
            Lakes.spearerAt(lake, 30, 1, 4, 4);
            lake.license(30, 1);
            lake.go(1, hole);
            lake.pass(1);
            Check.same("the first", lake.spearer(0, 3), 2);
            Check.same("the second", lake.spearer(1, 3), 0);
        });
        Check.test("all lamps ahead of all spears", () -> {
            EelPermits lake = Lakes.mild();
            lake.set(2, 4, 4, 0);
            lake.set(3, 4, 0, 0);
            Lakes.spearerAt(lake, 30, 0, 2, 4);
            Lakes.spearerAt(lake, 30, 1, 3, 4);
            lake.pass(1);
            Check.same("2 of the 4 are left to the first", lake.spearer(0, 3), 2);
            Check.same("2 came to the second", lake.spearer(1, 3), 2);
        });
    }

    private static void onlyThoseAtAHole() {
        Check.test("two lamps at one hole: 2 eels to each", () -> {
            EelPermits lake = Lakes.mild();
            lake.set(5, 5, 50, 0);
            Lakes.spearerAt(lake, 30, 1, 4, 4);
            lake.license(30, 1);
            lake.go(1, 0);
            lake.pass(1);
            Check.same("left", lake.cell(5, 5, 0), 46);
        });
        Check.test("no lamp of one who is at none", () -> {
            EelPermits lake = Lakes.mild();
            lake.set(1, 1, 50, 0);
            Lakes.spearerAt(lake, 30, 4, 0, 0);
            lake.go(0, -1);
            lake.pass(1);
            Check.same("left", lake.cell(1, 1, 0), 50);
        });
        Check.test("light 0 calls none from anywhere, and the spear takes what is there", () -> {
            EelPermits lake = Lakes.mild();
            Lakes.setAllCells(lake, 50, 0);
            lake.set(4, 4, 1, 0);
            Lakes.spearerAt(lake, 30, 0, 4, 4);
            Check.same("pass(1)", lake.pass(1), 1);
            Check.same("all others", lake.count(3), 80 * 50);
        });
    }
}
