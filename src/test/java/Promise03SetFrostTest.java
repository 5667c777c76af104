/** Promise 3: setFrost. */
final class Promise03SetFrostTest {
    public static void main(String[] args) {
        EelPermits lake = new EelPermits();
        for (int night = 0; night < 7; night++) {
            Check.same("setFrost of " + night, lake.setFrost(night, night + 3), 2);
        }
        for (int night = 0; night < 7; night++) {
            Check.same("setFrost again of " + night, lake.setFrost(night, -night), night + 3);
        }
        Check.same("setFrost(0, 20)", lake.setFrost(0, 20), 0);
        Check.same("setFrost(0, -20)", lake.setFrost(0, -20), 20);
        Check.same("setFrost(0, 20)", lake.setFrost(0, 20), -20);
        eachNightHasItsFrost();

        Check.badIndex(lake, "setFrost(-1, 0)", () -> lake.setFrost(-1, 0));
        Check.badIndex(lake, "setFrost(7, 0)", () -> lake.setFrost(7, 0));
        Check.badIndex(lake, "the index first", () -> lake.setFrost(7, 21));
        Check.badArgument(lake, "setFrost(6, 21)", () -> lake.setFrost(6, 21));
        Check.badArgument(lake, "setFrost(6, -21)", () -> lake.setFrost(6, -21));
        Check.badArgument(lake, "setFrost(0, MIN)", () -> lake.setFrost(0, Integer.MIN_VALUE));
        Check.end();
    }

    private static void eachNightHasItsFrost() {
        EelPermits lake = Lakes.mild();
        int[] frost = {1, -2, 4, -8, 16, -5, 3};
        for (int night = 0; night < 7; night++) {
            lake.setFrost(night, frost[night]);
        }
        int ice = 20;
        for (int night = 0; night < 16; night++) {
            lake.pass(1);
            ice += frost[night % 7];
            Check.same("ice behind night " + night, lake.count(1), ice);
        }
    }
}
