/** Promise 15: foresee. */
final class Promise15ForeseeTest {
    private static final int[] FORESEEN = {1, 3, 5, 7, 8};

    public static void main(String[] args) {
        for (int nights = 1; nights <= 40; nights++) {
            EelPermits lake = busyLake();
            EelPermits later = busyLake();
            later.pass(nights);
            long before = lake.digest();
            for (int what : FORESEEN) {
                Check.same("foresee(" + nights + ", " + what + ")", lake.foresee(nights, what), later.count(what));
                Check.same("nothing is changed", lake.digest(), before);
            }
        }
        afterOtherThoughts();
        refusals();
        Check.end();
    }

    private static void afterOtherThoughts() {
        EelPermits lake = busyLake();
        lake.foresee(40, 7);
        lake.advise(0);
        lake.set(8, 8, 44, 1);
        lake.setFrost(4, 7);
        lake.go(1, -1);
        EelPermits later = busyLake();
        later.set(8, 8, 44, 1);
        later.setFrost(4, 7);
        later.go(1, -1);
        later.pass(9);
        for (int what : FORESEEN) {
            Check.same("foresee(9, " + what + ")", lake.foresee(9, what), later.count(what));
        }
        lake.pass(9);
        Check.same("digest()", lake.digest(), later.digest());
    }

    private static void refusals() {
        EelPermits lake = busyLake();
        Check.badArgument(lake, "foresee(0, 1)", () -> lake.foresee(0, 1));
        Check.badArgument(lake, "foresee(41, 1)", () -> lake.foresee(41, 1));
        Check.badArgument(lake, "foresee(MIN, 1)", () -> lake.foresee(Integer.MIN_VALUE, 1));
        Check.badArgument(lake, "the argument first", () -> lake.foresee(41, 2));
        int[] unforeseen = {-1, 0, 2, 4, 6, 9, Integer.MAX_VALUE, Integer.MIN_VALUE};
        for (int what : unforeseen) {
            Check.badIndex(lake, "foresee(1, " + what + ")", () -> lake.foresee(1, what));
        }
    }

    private static EelPermits busyLake() {
        EelPermits lake = new EelPermits();
        int[] frost = {1, -2, 3, -6, 0, 2, 1};
        for (int night = 0; night < 7; night++) {
            lake.setFrost(night, frost[night]);
        }
        for (int c = 0; c < 81; c += 5) {
            lake.set(c % 9, c / 9, c * 7 % 61, c % 4);
        }
        lake.cut(5, 5);
        lake.cut(3, 4);
        lake.cut(0, 0);
        lake.license(6, 2);
        lake.license(20, 3);
        lake.license(2, 0);
        lake.go(0, 0);
        lake.go(1, 1);
        lake.go(2, 1);
        lake.warden(0, 8, 2);
        lake.warden(8, 0, 1);
        return lake;
    }
}
