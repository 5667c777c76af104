/** Promise 10: spearer. */
final class Promise10SpearerTest {
    public static void main(String[] args) {
        EelPermits lake = Lakes.mild();
        Check.badIndex(lake, "no spearer yet", () -> lake.spearer(0, 0));
        lake.license(9, 3);
        lake.license(30, 0);
        lake.set(4, 4, 40, 0);
        lake.cut(0, 0);
        lake.cut(4, 4);
        lake.go(1, 1);
        lake.pass(1);
        tells(lake, 0, 9, 3, -1, 0, 0, 0);
        tells(lake, 1, 30, 0, 1, 21, 21, 0);
        lake.go(1, -1);
        Check.same("the catch stays when going", lake.spearer(1, 3), 21);
        lake.go(0, 1);
        lake.warden(4, 4, 1);
        lake.set(4, 4, 40, 0);
        lake.pass(1);
        tells(lake, 0, 9, 3, 1, 9, 9, 1);
        tells(lake, 1, 30, 0, -1, 0, 21, 0);

        Check.badIndex(lake, "spearer(-1, 0)", () -> lake.spearer(-1, 0));
        Check.badIndex(lake, "spearer(2, 0)", () -> lake.spearer(2, 0));
        Check.badIndex(lake, "spearer(0, -1)", () -> lake.spearer(0, -1));
        Check.badIndex(lake, "spearer(0, 6)", () -> lake.spearer(0, 6));
        Check.end();
    }

    private static void tells(EelPermits lake, int spearer, int... due) {
        for (int what = 0; what < due.length; what++) {
            Check.same("spearer(" + spearer + ", " + what + ")", lake.spearer(spearer, what), due[what]);
        }
    }
}
