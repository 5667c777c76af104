/**
 * Terms, "Lake", and the promises 1, 2, 3 and 12: the first and the last cell, eels and mud, the ice at both of its
 * ends, the ice that just bears, the table of the frost where it begins anew, the least and the greatest distance.
 */
final class BoundsLakeTest {
    public static void main(String[] args) {
        cells();
        cellsAtFirst();
        theIceIsHeld();
        theIceBears();
        theTableBeginsAnew();
        nights();
        distances();
        Check.end();
    }

    private static void cells() {
        int[][] ends = {{0, 0}, {8, 0}, {0, 8}, {8, 8}};
        for (int[] end : ends) {
            Check.test("9 cells wide and 9 high: " + end[0] + ", " + end[1] + " is a cell of its own", () -> {
                EelPermits lake = new EelPermits();
                Check.same("set", lake.set(end[0], end[1], 60, 9), 2);
                for (int c = 0; c < 81; c++) {
                    boolean here = c == 9 * end[1] + end[0];
                    Check.same("eels of " + c, lake.cell(c % 9, c / 9, 0), here ? 60 : 0);
                    Check.same("mud of " + c, lake.cell(c % 9, c / 9, 1), here ? 9 : 2);
                }
            });
        }
        Check.test("all eels of the lake: a full one", () -> {
            EelPermits lake = new EelPermits();
            Lakes.setAllCells(lake, 60, 0);
            Check.same("count(3)", lake.count(3), 81 * 60);
        });
        Check.test("all eels of the lake: one emptied", () -> {
            EelPermits lake = new EelPermits();
            Lakes.setAllCells(lake, 60, 0);
            Lakes.setAllCells(lake, 0, 0);
            Check.same("count(3)", lake.count(3), 0);
        });
        setAnswers("of no eels in no mud", 0, 0, 0);
        setAnswers("of no eels in the most mud", 0, 9, 9);
        setAnswers("of the most eels in no mud", 60, 0, 600);
        setAnswers("of the most eels in the most mud", 60, 9, 609);
    }

    private static void setAnswers(String name, int eels, int mud, int due) {
        Check.test("set returns 10 * eels + mud, " + name, () -> {
            EelPermits lake = new EelPermits();
            lake.set(8, 0, eels, mud);
            Check.same("set", lake.set(8, 0, 1, 1), due);
        });
    }

    private static void cellsAtFirst() {
        Check.test("eels, 0 at first", () -> {
            EelPermits lake = new EelPermits();
            for (int c = 0; c < 81; c++) {
                Check.same("eels of " + c, lake.cell(c % 9, c / 9, 0), 0);
            }
        });
        Check.test("mud, 2 at first", () -> {
            EelPermits lake = new EelPermits();
            for (int c = 0; c < 81; c++) {
                Check.same("mud of " + c, lake.cell(c % 9, c / 9, 1), 2);
            }
        });
        Check.test("frost, 2 at first", () -> {
            EelPermits lake = new EelPermits();
            Check.same("setFrost(0, 20)", lake.setFrost(0, 20), 2);
            Check.same("setFrost(6, -20)", lake.setFrost(6, -20), 2);
        });
        Check.test("ice, 20 at first, which bears", () -> {
            EelPermits lake = new EelPermits();
            Check.same("count(1)", lake.count(1), 20);
            Check.same("count(2)", lake.count(2), 1);
        });
        Check.test("a lake without holes and people", () -> {
            EelPermits lake = new EelPermits();
            for (int what = 3; what <= 8; what++) {
                Check.same("count(" + what + ")", lake.count(what), 0);
            }
        });
    }

    private static void theIceIsHeld() {
        int[][] fromFrostTo = {
            {88, 1, 89}, {89, 1, 90}, {90, 1, 90}, {69, 20, 89}, {70, 20, 90}, {71, 20, 90}, {90, 20, 90},
            {2, -1, 1}, {1, -1, 0}, {0, -1, 0}, {21, -20, 1}, {20, -20, 0}, {19, -20, 0}, {0, -20, 0},
            {90, 0, 90}, {0, 0, 0}, {90, -1, 89}, {0, 1, 1}};
        for (int[] row : fromFrostTo) {
            Check.test("held at 0 to 90: " + row[0] + " with a frost of " + row[1], () -> {
                EelPermits lake = Lakes.withIce(row[0]);
                Check.same("ice before", lake.count(1), row[0]);
                lake.setFrost(lake.count(0) % 7, row[1]);
                Check.same("foresee(1, 1)", lake.foresee(1, 1), row[2]);
                lake.pass(1);
                Check.same("ice behind", lake.count(1), row[2]);
            });
        }
        Check.test("what was held at 90 is not kept beside", () -> {
            EelPermits lake = Lakes.withIce(85);
            Lakes.setAllFrost(lake, 20);
            lake.pass(3);
            Lakes.setAllFrost(lake, -1);
            lake.pass(1);
            Check.same("ice", lake.count(1), 89);
        });
        Check.test("what was held at 0 is not kept beside", () -> {
            EelPermits lake = Lakes.withIce(5);
            Lakes.setAllFrost(lake, -20);
            lake.pass(3);
            Lakes.setAllFrost(lake, 1);
            lake.pass(1);
            Check.same("ice", lake.count(1), 1);
        });
    }

    private static void theIceBears() {
        int[][] iceBears = {{0, 0}, {4, 0}, {5, 1}, {6, 1}, {90, 1}};
        for (int[] row : iceBears) {
            Check.test("it bears with 5 or more: " + row[0], () -> {
                EelPermits lake = Lakes.withIce(row[0]);
                Check.same("count(2)", lake.count(2), row[1]);
                Check.same("bears()", lake.bears(), row[1] == 1 ? -1 : 0);
            });
        }
    }

    private static void theTableBeginsAnew() {
        for (int of = 0; of <= 6; of += 6) {
            int night = of;
            Check.test("the night by the remainder of 7: the frost of " + night, () -> {
                EelPermits lake = Lakes.mild();
                lake.setFrost(night, 1);
                int ice = 20;
                for (int gone = 0; gone < 22; gone++) {
                    ice += gone == night || gone == night + 7 || gone == night + 14 || gone == night + 21 ? 1 : 0;
                    lake.pass(1);
                    Check.same("ice behind the night " + gone, lake.count(1), ice);
                }
            });
        }
        Check.test("many nights at once go over the table's end as one by one", () -> {
            EelPermits lake = Lakes.mild();
            lake.setFrost(6, 3);
            lake.setFrost(0, -1);
            lake.pass(6);
            Check.same("behind 0 to 5", lake.count(1), 19);
            lake.pass(2);
            Check.same("behind 6 and 7", lake.count(1), 21);
        });
        Check.test("a frost told in its night is that night's", () -> {
            EelPermits lake = Lakes.mild();
            lake.pass(7);
            lake.setFrost(0, 9);
            lake.pass(1);
            Check.same("ice", lake.count(1), 29);
        });
        Check.test("a frost told a night late comes with the next week", () -> {
            EelPermits lake = Lakes.mild();
            lake.pass(1);
            lake.setFrost(0, 9);
            lake.pass(6);
            Check.same("ice in the night 7", lake.count(1), 20);
            lake.pass(1);
            Check.same("ice in the night 8", lake.count(1), 29);
        });
    }

    private static void nights() {
        int[] some = {1, 6, 7, 8, 39, 40};
        Check.test("time is told in nights, from 0", () -> Check.same("night", new EelPermits().count(0), 0));
        for (int nights : some) {
            Check.test("the night is 1 greater, " + nights + " times", () -> {
                EelPermits lake = new EelPermits();
                lake.pass(nights);
                Check.same("night", lake.count(0), nights);
            });
        }
    }

    private static void distances() {
        int[][] fromToFar = {
            {0, 0, 0, 0, 0}, {8, 8, 8, 8, 0}, {0, 0, 8, 8, 8}, {8, 0, 0, 8, 8}, {0, 0, 8, 0, 8}, {4, 8, 4, 0, 8},
            {3, 3, 4, 3, 1}, {3, 3, 3, 2, 1}, {3, 3, 4, 2, 1}, {1, 1, 6, 5, 5}, {1, 1, 5, 6, 5}, {6, 5, 1, 1, 5},
            {5, 6, 1, 1, 5}, {2, 7, 7, 2, 5}};
        for (int[] row : fromToFar) {
            String way = "from " + row[0] + ", " + row[1] + " to " + row[2] + ", " + row[3];
            Check.test("the greater difference, " + way, () -> {
                EelPermits lake = new EelPermits();
                lake.cut(row[0], row[1]);
                lake.warden(row[2], row[3], 1);
                Check.same("hole(0, 4)", lake.hole(0, 4), row[4]);
            });
        }
    }
}
