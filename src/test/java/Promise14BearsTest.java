/** Promise 14: bears. */
final class Promise14BearsTest {
    public static void main(String[] args) {
        Check.same("a new lake", new EelPermits().bears(), -1);
        EelPermits thin = new EelPermits();
        thin.setFrost(0, -15);
        Check.same("5 bear, but a week later 2 do not", thin.bears(), 8);
        thin.setFrost(0, -16);
        Check.same("4 do not", thin.bears(), 1);
        long before = thin.digest();
        thin.bears();
        Check.same("nothing is changed", thin.digest(), before);
        thin.pass(1);
        Check.same("it does not now", thin.bears(), 0);

        EelPermits slow = Lakes.mild();
        Lakes.setAllFrost(slow, -1);
        for (int nights = 16; nights >= 0; nights--) {
            Check.same("bears()", slow.bears(), nights);
            slow.pass(1);
        }
        Check.same("0 for ever", slow.bears(), 0);

        thicknessIsHeldMeanwhile();
        Check.same("at most 200", Lakes.losingOneAWeek(4).bears(), 200);
        Check.same("201 are too many", Lakes.losingOneAWeek(5).bears(), -1);
        Check.end();
    }

    /** The ice would be 130 behind two nights if it was not held, and would bear for a week more. */
    private static void thicknessIsHeldMeanwhile() {
        EelPermits lake = new EelPermits();
        Lakes.setAllFrost(lake, 20);
        lake.pass(7);
        Check.same("ice", lake.count(1), 90);
        Check.same("it gets thicker", lake.bears(), -1);
        Lakes.setAllFrost(lake, -20);
        lake.setFrost(0, 20);
        lake.setFrost(1, 20);
        Check.same("90, 90, then 5 nights of thaw", lake.bears(), 7);
        lake.setFrost(6, -5);
        Check.same("10, then 5; 25, 45, 25, 5, then 0", lake.bears(), 12);
    }
}
