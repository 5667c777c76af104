/**
 * A night's step 3, "Wardens": catches as great as the permit and one greater, the nearest of holes and of several the
 * one with the smallest number, paces that just reach and that just do not, fines in the very cell alone.
 */
final class BoundsWardensTest {
    public static void main(String[] args) {
        greaterThanThePermit();
        theNearest();
        upToSoManyCells();
        inBothDirections();
        fines();
        givesBack();
        byNumbers();
        Check.end();
    }

    /** In mud 0; the warden is 8 cells away and goes as many. */
    private static void greaterThanThePermit() {
        catchAndFine("permit 0, a catch of 0", 0, 0, 0, 0);
        catchAndFine("permit 0, a catch of 1", 0, 1, 0, 1);
        catchAndFine("permit 1, a catch of 1", 1, 1, 1, 0);
        catchAndFine("permit 1, a catch of 2", 1, 2, 1, 1);
        catchAndFine("permit 29, a catch of 30", 29, 59, 29, 1);
        catchAndFine("permit 30, a catch of 30", 30, 59, 30, 0);
        catchAndFine("permit 30, a catch of 31", 30, 60, 30, 1);
    }

    private static void catchAndFine(String name, int permit, int eels, int left, int fines) {
        Check.test("greater than the permit: " + name, () -> {
            EelPermits lake = Lakes.mild();
            lake.set(8, 8, eels, 0);
            Lakes.spearerAt(lake, permit, 0, 8, 8);
            lake.warden(0, 0, 8);
            Check.same("pass(1)", lake.pass(1), left);
            Check.same("catch, what is left of it", lake.spearer(0, 3), left);
            Check.same("eels in all", lake.spearer(0, 4), left);
            Check.same("fines", lake.spearer(0, 5), fines);
            Check.same("fines given", lake.about(0, 3), fines);
            Check.same("count(8)", lake.count(8), fines);
            isIn(lake, 0, fines * 8, fines * 8);
        });
    }

    private static void theNearest() {
        nearest("the first, as far as the second", 1, 4, 7, 4, 0);
        nearest("the first, as far by y as the second by x", 4, 1, 7, 5, 0);
        nearest("the first, one nearer", 2, 4, 7, 4, 0);
        nearest("the second, one nearer", 1, 4, 6, 4, 1);
        nearest("the second, one nearer by the greater difference", 4, 1, 6, 6, 1);
        nearest("the second, where the warden is", 4, 5, 4, 4, 1);
        nearest("the first, where the warden is", 4, 4, 4, 5, 0);
        Check.test("the nearest, though 8 cells away", () -> {
            EelPermits lake = Lakes.mild();
            tooMuchAt(lake, 8, 0);
            lake.warden(0, 0, 1);
            lake.pass(1);
            isIn(lake, 0, 1, 0);
        });
        Check.test("of several the one with the smallest number: of 8 at once", () -> {
            EelPermits lake = Lakes.mild();
            int[][] round = {{8, 4}, {0, 0}, {4, 8}, {0, 4}, {8, 8}, {4, 0}, {0, 8}, {8, 0}};
            for (int[] cell : round) {
                tooMuchAt(lake, cell[0], cell[1]);
            }
            lake.warden(4, 4, 4);
            lake.pass(1);
            isIn(lake, 0, 8, 4);
        });
        Check.test("by the number of the hole, not of the spearer", () -> {
            EelPermits lake = Lakes.mild();
            tooMuchAt(lake, 1, 4);
            tooMuchAt(lake, 7, 4);
            lake.go(0, 1);
            lake.go(1, 0);
            lake.warden(4, 4, 8);
            lake.pass(1);
            isIn(lake, 0, 1, 4);
        });
        notToOthers();
    }

    private static void nearest(String name, int x, int y, int otherX, int otherY, int goal) {
        Check.test("the nearest hole: " + name, () -> {
            EelPermits lake = Lakes.mild();
            tooMuchAt(lake, x, y);
            tooMuchAt(lake, otherX, otherY);
            lake.warden(4, 4, 8);
            lake.pass(1);
            isIn(lake, 0, goal == 0 ? x : otherX, goal == 0 ? y : otherY);
            Check.same("fines of the one there", lake.spearer(goal, 5), 1);
            Check.same("fines of the other", lake.spearer(1 - goal, 5), 0);
        });
    }

    private static void notToOthers() {
        Check.test("not to a nearer hole at which nobody is", () -> {
            EelPermits lake = Lakes.mild();
            lake.cut(5, 5);
            lake.set(5, 5, 60, 0);
            tooMuchAt(lake, 8, 8);
            lake.warden(4, 4, 8);
            lake.pass(1);
            isIn(lake, 0, 8, 8);
        });
        Check.test("not to a nearer hole at which a catch is as great as the permit", () -> {
            EelPermits lake = Lakes.mild();
            lake.set(5, 5, 2, 0);
            Lakes.spearerAt(lake, 2, 0, 5, 5);
            tooMuchAt(lake, 8, 8);
            lake.warden(4, 4, 8);
            lake.pass(1);
            isIn(lake, 0, 8, 8);
        });
        Check.test("to a hole at which the last of 8 took too much", () -> {
            EelPermits lake = Lakes.mild();
            lake.set(8, 8, 59, 0);
            lake.cut(8, 8);
            for (int s = 0; s < 8; s++) {
                lake.license(s < 7 ? 30 : 0, 0);
                lake.go(s, s == 0 || s == 7 ? 0 : -1);
            }
            lake.warden(0, 0, 8);
            // 30 of 59 are caught, and 15 of 29
            lake.pass(1);
            Check.same("fines of the first", lake.spearer(0, 5), 0);
            Check.same("fines of the last", lake.spearer(7, 5), 1);
        });
        Check.test("nowhere without such a hole", () -> {
            EelPermits lake = Lakes.full();
            lake.pass(1);
            for (int w = 0; w < 3; w++) {
                isIn(lake, w, 4, 4);
            }
        });
        Check.test("nowhere behind a catch of the night before", () -> {
            EelPermits lake = Lakes.mild();
            tooMuchAt(lake, 0, 0);
            lake.pass(1);
            lake.go(0, -1);
            lake.warden(4, 4, 8);
            lake.pass(1);
            isIn(lake, 0, 4, 4);
        });
    }

    private static void upToSoManyCells() {
        for (int of = 1; of <= 8; of++) {
            int pace = of;
            Check.test("pace " + pace + " is enough for " + pace + " cells", () -> {
                EelPermits lake = wardenAway(pace, pace);
                lake.pass(1);
                isIn(lake, 0, pace, 0);
                Check.same("fines", lake.about(0, 3), 1);
            });
            Check.test("pace " + pace + " does not go over the hole, 1 cell away", () -> {
                EelPermits lake = wardenAway(pace, 1);
                lake.pass(1);
                isIn(lake, 0, 1, 0);
                Check.same("fines", lake.about(0, 3), 1);
            });
            Check.test("pace " + pace + " stays in the cell of the hole", () -> {
                EelPermits lake = wardenAway(pace, 0);
                lake.pass(1);
                isIn(lake, 0, 0, 0);
                Check.same("fines", lake.about(0, 3), 1);
            });
        }
        for (int of = 1; of <= 7; of++) {
            int pace = of;
            Check.test("pace " + pace + " is not enough for " + (pace + 1) + " cells", () -> {
                EelPermits lake = wardenAway(pace, pace + 1);
                lake.pass(1);
                isIn(lake, 0, pace, 0);
                Check.same("fines", lake.about(0, 3), 0);
                Check.same("the catch is kept", lake.spearer(0, 3), 11);
            });
        }
    }

    /** The warden is in 0, 0, and the hole so far away by x. */
    private static EelPermits wardenAway(int pace, int far) {
        EelPermits lake = Lakes.mild();
        tooMuchAt(lake, far, 0);
        lake.warden(0, 0, pace);
        return lake;
    }

    private static void inBothDirections() {
        goes("x and y each 1 nearer", 1, 0, 0, 8, 8, 1, 1);
        goes("x and y each nearer by all the pace", 7, 0, 0, 8, 8, 7, 7);
        goes("x and y just there", 8, 0, 8, 8, 0, 8, 0);
        goes("down in both", 3, 8, 8, 0, 0, 5, 5);
        goes("as long as they differ: y is there first", 3, 0, 4, 8, 2, 3, 2);
        goes("as long as they differ: x is there first", 3, 4, 0, 2, 8, 2, 3);
        goes("x alone", 5, 8, 4, 0, 4, 3, 4);
        goes("y alone", 5, 4, 8, 4, 0, 4, 3);
    }

    /** The cells, x and y of each: where the warden is, where the hole is, where the warden is then. */
    private static void goes(String name, int pace, int... cells) {
        Check.test("in both directions at once: " + name, () -> {
            EelPermits lake = Lakes.mild();
            tooMuchAt(lake, cells[2], cells[3]);
            lake.warden(cells[0], cells[1], pace);
            lake.pass(1);
            isIn(lake, 0, cells[4], cells[5]);
            boolean there = cells[4] == cells[2] && cells[5] == cells[3];
            Check.same("fines", lake.about(0, 3), there ? 1 : 0);
        });
    }

    private static void fines() {
        Check.test("in its cell: not in the one beside by y", () -> {
            EelPermits lake = Lakes.mild();
            tooMuchAt(lake, 3, 3);
            lake.warden(3, 1, 1);
            lake.pass(1);
            isIn(lake, 0, 3, 2);
            Check.same("fines", lake.count(8), 0);
        });
        Check.test("all such spearers there, not the one with just the permit", () -> {
            EelPermits lake = Lakes.mild();
            lake.set(4, 4, 60, 0);
            int[] permits = {30, 15, 7, 4};
            Lakes.spearerAt(lake, permits[0], 0, 4, 4);
            for (int s = 1; s < 4; s++) {
                lake.license(permits[s], 0);
                lake.go(s, 0);
            }
            lake.warden(4, 4, 1);
            // 31, 15, 8 and 4 are caught
            Check.same("pass(1)", lake.pass(1), 30 + 15 + 7 + 4);
            int[] fines = {1, 0, 1, 0};
            for (int s = 0; s < 4; s++) {
                Check.same("fines of " + s, lake.spearer(s, 5), fines[s]);
                Check.same("catch of " + s, lake.spearer(s, 3), permits[s]);
            }
            Check.same("fines given", lake.about(0, 3), 2);
        });
        Check.test("no such spearer elsewhere", () -> {
            EelPermits lake = Lakes.mild();
            tooMuchAt(lake, 4, 4);
            tooMuchAt(lake, 5, 4);
            lake.warden(4, 4, 8);
            lake.pass(1);
            Check.same("fines there", lake.spearer(0, 5), 1);
            Check.same("fines beside", lake.spearer(1, 5), 0);
            Check.same("catch beside", lake.spearer(1, 3), 11);
        });
        Check.test("a fine more each night", () -> {
            EelPermits lake = Lakes.mild();
            tooMuchAt(lake, 4, 4);
            lake.warden(4, 4, 8);
            // nothing is kept, so that each night more eels are there
            lake.pass(40);
            Check.same("fines", lake.spearer(0, 5), 40);
            Check.same("fines given", lake.about(0, 3), 40);
        });
    }

    private static void givesBack() {
        Check.test("into the cell: up to the most eels", () -> {
            EelPermits lake = Lakes.mild();
            lake.set(4, 4, 60, 0);
            Lakes.spearerAt(lake, 0, 0, 4, 4);
            lake.warden(4, 4, 1);
            Check.same("pass(1)", lake.pass(1), 0);
            Check.same("eels", lake.cell(4, 4, 0), 60);
        });
        Check.test("into the cell: all 8 of 60 eels that lamps brought", () -> {
            EelPermits lake = Lakes.mild();
            Lakes.setAllCells(lake, 60, 0);
            lake.set(4, 4, 0, 0);
            Lakes.spearerAt(lake, 0, 4, 4, 4);
            for (int s = 1; s < 8; s++) {
                lake.license(0, 4);
                lake.go(s, 0);
            }
            lake.warden(4, 4, 1);
            Check.same("pass(1)", lake.pass(1), 0);
            Check.same("eels", lake.cell(4, 4, 0), 60);
            Check.same("all eels of the lake", lake.count(3), 80 * 60);
            // 31, 15, 8, 4, 2 of 60, so that nothing is left to the last 3
            Check.same("fines", lake.count(8), 5);
        });
        Check.test("what is more than the permit: 1", () -> {
            EelPermits lake = Lakes.mild();
            lake.set(4, 4, 60, 0);
            Lakes.spearerAt(lake, 30, 0, 4, 4);
            lake.warden(4, 4, 1);
            Check.same("pass(1)", lake.pass(1), 30);
            Check.same("eels: 30, and 4 come", lake.cell(4, 4, 0), 34);
        });
        Check.test("not into the cell beside", () -> {
            EelPermits lake = Lakes.mild();
            tooMuchAt(lake, 4, 4);
            lake.warden(4, 3, 1);
            lake.pass(1);
            Check.same("eels of the lake", lake.count(3), lake.cell(4, 4, 0));
        });
    }

    private static void byNumbers() {
        Check.test("by numbers: the first one fines, the others stay", () -> {
            EelPermits lake = Lakes.mild();
            tooMuchAt(lake, 4, 4);
            for (int w = 0; w < 3; w++) {
                lake.warden(5, 5, 1);
            }
            lake.pass(1);
            isIn(lake, 0, 4, 4);
            isIn(lake, 1, 5, 5);
            isIn(lake, 2, 5, 5);
            Check.same("fines", lake.spearer(0, 5), 1);
        });
        Check.test("by numbers: the first one does not get there, the second does", () -> {
            EelPermits lake = Lakes.mild();
            tooMuchAt(lake, 4, 4);
            lake.warden(6, 4, 1);
            lake.warden(4, 6, 2);
            lake.warden(2, 4, 2);
            lake.pass(1);
            isIn(lake, 0, 5, 4);
            isIn(lake, 1, 4, 4);
            isIn(lake, 2, 2, 4);
            Check.same("fines by the second", lake.about(1, 3), 1);
            Check.same("fines", lake.count(8), 1);
        });
        Check.test("by numbers: the third goes to what the first two left", () -> {
            EelPermits lake = Lakes.mild();
            tooMuchAt(lake, 0, 0);
            tooMuchAt(lake, 2, 0);
            tooMuchAt(lake, 8, 8);
            for (int w = 0; w < 3; w++) {
                lake.warden(0, 0, 8);
            }
            lake.pass(1);
            isIn(lake, 0, 0, 0);
            isIn(lake, 1, 2, 0);
            isIn(lake, 2, 8, 8);
        });
    }

    /** One who may keep none takes 11 of 20. */
    private static void tooMuchAt(EelPermits lake, int x, int y) {
        lake.set(x, y, 20, 0);
        Lakes.spearerAt(lake, 0, 0, x, y);
    }

    private static void isIn(EelPermits lake, int warden, int x, int y) {
        Check.same("x of warden " + warden, lake.about(warden, 0), x);
        Check.same("y of warden " + warden, lake.about(warden, 1), y);
    }
}
