/** Every call on a lake with all the holes and people that there may be: none may reach over its end. */
final class FullLakeTest {
    public static void main(String[] args) {
        EelPermits lake = Lakes.full();
        tellsAll(lake);
        Check.same("all permits are kept", keptIn(lake), 8 * 2);
        tellsAll(lake);
        lake.setFrost(2, 1);
        lake.pass(1);
        lake.pass(1);
        Check.same("4 froze over", lake.count(5), 8);
        lake.setFrost(3, -20);
        Check.same("bears()", lake.bears(), 1);
        lake.pass(1);
        Check.same("all are closed", lake.count(5), 0);
        Check.same("advise(7)", lake.advise(7), -1);
        tellsAll(lake);
        lake.pass(40);
        tellsAll(lake);
        someAreFined();
        Check.end();
    }

    private static void someAreFined() {
        EelPermits lake = Lakes.full();
        for (int s = 0; s < 8; s++) {
            lake.go(s, s < 4 ? 8 : 11);
        }
        for (int night = 0; night < 4; night++) {
            lake.set(8, 0, 60, 0);
            lake.set(2, 8, 60, 0);
            lake.pass(1);
        }
        Check.same("fines", lake.count(8), lake.about(0, 3) + lake.about(1, 3) + lake.about(2, 3));
        Check.same("some are fined", lake.count(8) > 0 ? 1 : 0, 1);
    }

    private static int keptIn(EelPermits lake) {
        int kept = lake.pass(1);
        int catches = 0;
        for (int s = 0; s < 8; s++) {
            catches += lake.spearer(s, 3);
        }
        Check.same("catches", catches, kept);
        return kept;
    }

    private static void tellsAll(EelPermits lake) {
        long before = lake.digest();
        for (int h = 0; h < 12; h++) {
            Check.same("x of " + h, lake.hole(h, 0), h % 9);
            Check.same("nearest warden", lake.hole(h, 4), 4);
        }
        int catches = 0;
        for (int s = 0; s < 8; s++) {
            lake.advise(s);
            catches += lake.spearer(s, 3);
        }
        Check.same("mean()", lake.mean(), catches / 8.0);
        lake.foresee(40, 8);
        lake.bears();
        Check.same("nothing is changed", lake.digest(), before);
        Check.badIndex(lake, "hole(12, 0)", () -> lake.hole(12, 0));
        Check.badIndex(lake, "spearer(8, 0)", () -> lake.spearer(8, 0));
        Check.badIndex(lake, "about(3, 0)", () -> lake.about(3, 0));
        Check.badIndex(lake, "advise(8)", () -> lake.advise(8));
        Check.badIndex(lake, "go(0, 12)", () -> lake.go(0, 12));
        Check.badIndex(lake, "go(8, 0)", () -> lake.go(8, 0));
        Check.badState(lake, "cut(4, 4)", () -> lake.cut(4, 4));
        Check.badState(lake, "license(0, 0)", () -> lake.license(0, 0));
        Check.badState(lake, "warden(0, 0, 1)", () -> lake.warden(0, 0, 1));
    }
}
