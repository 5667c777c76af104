/** Promise 11: about. */
final class Promise11AboutTest {
    public static void main(String[] args) {
        EelPermits lake = Lakes.mild();
        Check.badIndex(lake, "no warden yet", () -> lake.about(0, 0));
        lake.warden(7, 1, 3);
        lake.warden(0, 8, 8);
        lake.set(2, 2, 60, 0);
        lake.cut(2, 2);
        for (int s = 0; s < 2; s++) {
            lake.license(1, 0);
            lake.go(s, 0);
        }
        tells(lake, 0, 7, 1, 3, 0);
        tells(lake, 1, 0, 8, 8, 0);
        lake.pass(1);
        tells(lake, 0, 4, 2, 3, 0);
        tells(lake, 1, 2, 2, 8, 2);
        lake.pass(1);
        tells(lake, 0, 2, 2, 3, 2);
        tells(lake, 1, 2, 2, 8, 2);

        Check.badIndex(lake, "about(-1, 0)", () -> lake.about(-1, 0));
        Check.badIndex(lake, "about(2, 0)", () -> lake.about(2, 0));
        Check.badIndex(lake, "about(0, -1)", () -> lake.about(0, -1));
        Check.badIndex(lake, "about(0, 4)", () -> lake.about(0, 4));
        Check.end();
    }

    private static void tells(EelPermits lake, int warden, int... due) {
        for (int what = 0; what < due.length; what++) {
            Check.same("about(" + warden + ", " + what + ")", lake.about(warden, what), due[what]);
        }
    }
}
