/** Promise 13 and steps 5 and 6 of a night: the ice, the holes that close, the night. */
final class Promise13IceTest {
    public static void main(String[] args) {
        theIceIsHeld();
        holesAtWhichNobodyIsFreezeOver();
        withoutBearingIceAllClose();
        frostOfMoreThanZeroBelowBearing();
        theNightIsOneGreater();
        Check.end();
    }

    private static void theIceIsHeld() {
        EelPermits lake = new EelPermits();
        Lakes.setAllFrost(lake, 20);
        int[] thick = {40, 60, 80, 90, 90};
        for (int due : thick) {
            lake.pass(1);
            Check.same("ice", lake.count(1), due);
        }
        Lakes.setAllFrost(lake, -20);
        int[] thin = {70, 50, 30, 10, 0, 0};
        for (int due : thin) {
            lake.pass(1);
            Check.same("ice", lake.count(1), due);
        }
        Lakes.setAllFrost(lake, 5);
        lake.pass(1);
        Check.same("from 0", lake.count(1), 5);
        Check.same("it bears", lake.count(2), 1);
    }

    private static void holesAtWhichNobodyIsFreezeOver() {
        int[] frosts = {-1, 0, 1};
        for (int frost : frosts) {
            EelPermits lake = new EelPermits();
            lake.setFrost(0, frost);
            lake.cut(0, 0);
            lake.cut(1, 1);
            lake.license(0, 0);
            lake.go(0, 1);
            lake.pass(1);
            Check.same("nobody, frost " + frost, lake.hole(0, 2), frost > 0 ? 0 : 1);
            Check.same("somebody, frost " + frost, lake.hole(1, 2), 1);
            Check.same("stays there", lake.spearer(0, 2), 1);
        }
        EelPermits thick = new EelPermits();
        Lakes.setAllFrost(thick, 20);
        thick.pass(5);
        thick.cut(3, 3);
        thick.pass(1);
        Check.same("frost, though the ice is held", thick.hole(0, 2), 0);
    }

    private static void withoutBearingIceAllClose() {
        for (int ice = 4; ice <= 5; ice++) {
            EelPermits lake = new EelPermits();
            lake.setFrost(0, ice - 20);
            lake.set(1, 1, 20, 0);
            lake.cut(1, 1);
            lake.cut(2, 2);
            lake.license(30, 0);
            lake.go(0, 0);
            Check.same("pass(1)", lake.pass(1), 11);
            Check.same("open holes with ice " + ice, lake.count(5), ice < 5 ? 0 : 2);
            Check.same("hole of the spearer", lake.spearer(0, 2), ice < 5 ? -1 : 0);
            Check.same("catch", lake.spearer(0, 3), 11);
            Check.same("spearers at 0", lake.hole(0, 3), ice < 5 ? 0 : 1);
        }
    }

    private static void frostOfMoreThanZeroBelowBearing() {
        EelPermits lake = new EelPermits();
        lake.setFrost(0, -20);
        lake.setFrost(1, 3);
        lake.setFrost(2, 3);
        lake.cut(1, 1);
        lake.pass(2);
        Check.same("3 do not bear", lake.count(2), 0);
        lake.pass(1);
        Check.same("6 bear", lake.count(2), 1);
        Check.same("closed for good", lake.hole(0, 2), 0);
        Check.same("cut(1, 1)", lake.cut(1, 1), 1);
    }

    private static void theNightIsOneGreater() {
        EelPermits lake = new EelPermits();
        lake.pass(1);
        Check.same("night", lake.count(0), 1);
        lake.pass(40);
        Check.same("night", lake.count(0), 41);
    }
}
