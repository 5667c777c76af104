/**
 * Terms, "Spearers" and "Wardens", and the promises 5, 6, 7, 10 and 11: eight spearers and three wardens and no more,
 * the least and the greatest permit, light and pace, none as a hole.
 */
final class BoundsPeopleTest {
    public static void main(String[] args) {
        atMostEightSpearers();
        aNewSpearer();
        atMostThreeWardens();
        aNewWarden();
        holesOfSpearers();
        Check.end();
    }

    private static void atMostEightSpearers() {
        Check.test("numbered from 0", () -> Check.same("license(0, 0)", new EelPermits().license(0, 0), 0));
        Check.test("the 8th spearer", () -> {
            EelPermits lake = Lakes.withSpearers(7);
            Check.same("license(30, 4)", lake.license(30, 4), 7);
            Check.same("count(6)", lake.count(6), 8);
        });
        Check.test("no 9th spearer", () -> {
            EelPermits lake = Lakes.withSpearers(8);
            Check.badState(lake, "license(30, 4)", () -> lake.license(30, 4));
            Check.badState(lake, "license(0, 0)", () -> lake.license(0, 0));
        });
    }

    private static void aNewSpearer() {
        int[][] permitLight = {{0, 0}, {0, 4}, {30, 0}, {30, 4}};
        for (int[] row : permitLight) {
            Check.test("a new spearer, permit " + row[0] + ", light " + row[1], () -> {
                EelPermits lake = new EelPermits();
                lake.license(row[0], row[1]);
                int[] due = {row[0], row[1], -1, 0, 0, 0};
                for (int what = 0; what < 6; what++) {
                    Check.same("spearer(0, " + what + ")", lake.spearer(0, what), due[what]);
                }
            });
        }
    }

    private static void atMostThreeWardens() {
        Check.test("numbered from 0", () -> Check.same("warden(8, 8, 8)", new EelPermits().warden(8, 8, 8), 0));
        Check.test("the 3rd warden", () -> {
            EelPermits lake = Lakes.withWardens(2);
            Check.same("warden(8, 8, 8)", lake.warden(8, 8, 8), 2);
            Check.same("about(2, 0)", lake.about(2, 0), 8);
        });
        Check.test("no 4th warden", () -> {
            EelPermits lake = Lakes.withWardens(3);
            Check.badState(lake, "warden(0, 0, 1)", () -> lake.warden(0, 0, 1));
            Check.badState(lake, "warden(8, 8, 8)", () -> lake.warden(8, 8, 8));
        });
    }

    private static void aNewWarden() {
        int[][] cellPace = {{0, 0, 1}, {8, 0, 8}, {0, 8, 8}, {8, 8, 1}};
        for (int[] row : cellPace) {
            Check.test("a new warden in " + row[0] + ", " + row[1] + ", pace " + row[2], () -> {
                EelPermits lake = new EelPermits();
                lake.warden(row[0], row[1], row[2]);
                int[] due = {row[0], row[1], row[2], 0};
                for (int what = 0; what < 4; what++) {
                    Check.same("about(0, " + what + ")", lake.about(0, what), due[what]);
                }
            });
        }
    }

    private static void holesOfSpearers() {
        Check.test("from none to none", () -> {
            EelPermits lake = Lakes.withSpearers(1);
            Check.same("go(0, -1)", lake.go(0, -1), -1);
            Check.same("spearer(0, 2)", lake.spearer(0, 2), -1);
        });
        Check.test("from none to the first hole", () -> {
            EelPermits lake = Lakes.withSpearers(1);
            Check.same("go(0, 0)", lake.go(0, 0), -1);
            Check.same("spearer(0, 2)", lake.spearer(0, 2), 0);
        });
        Check.test("from the first hole to the last one", () -> {
            EelPermits lake = Lakes.withSpearers(1);
            lake.go(0, 0);
            Check.same("go(0, 11)", lake.go(0, 11), 0);
            Check.same("spearer(0, 2)", lake.spearer(0, 2), 11);
        });
        Check.test("from a hole to itself", () -> {
            EelPermits lake = Lakes.withSpearers(1);
            lake.go(0, 11);
            Check.same("go(0, 11)", lake.go(0, 11), 11);
            Check.same("hole(11, 3)", lake.hole(11, 3), 1);
        });
        Check.test("from a hole to none", () -> {
            EelPermits lake = Lakes.withSpearers(1);
            lake.go(0, 11);
            Check.same("go(0, -1)", lake.go(0, -1), 11);
            Check.same("hole(11, 3)", lake.hole(11, 3), 0);
        });
        Check.test("behind a thaw the hole before is none", () -> {
            EelPermits lake = Lakes.full();
            lake.setFrost(0, -16);
            lake.pass(1);
            Check.same("go(7, -1)", lake.go(7, -1), -1);
        });
        Check.test("the first and the last spearer go alone", () -> {
            EelPermits lake = Lakes.full();
            lake.go(0, 10);
            lake.go(7, 11);
            for (int s = 1; s < 7; s++) {
                Check.same("spearer(" + s + ", 2)", lake.spearer(s, 2), s);
            }
        });
    }
}
