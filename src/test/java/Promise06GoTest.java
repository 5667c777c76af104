/** Promise 6: go. */
final class Promise06GoTest {
    public static void main(String[] args) {
        EelPermits lake = new EelPermits();
        Check.badIndex(lake, "no spearer yet", () -> lake.go(0, -1));
        lake.license(10, 0);
        lake.license(11, 0);
        Check.badIndex(lake, "no hole yet", () -> lake.go(0, 0));
        lake.cut(1, 1);
        lake.cut(2, 2);
        lake.cut(3, 3);
        Check.same("go(0, 1)", lake.go(0, 1), -1);
        Check.same("go(1, 1)", lake.go(1, 1), -1);
        Check.same("two at 1", lake.hole(1, 3), 2);
        Check.same("go(0, 1) again", lake.go(0, 1), 1);
        Check.same("go(0, 0)", lake.go(0, 0), 1);
        Check.same("hole of 0", lake.spearer(0, 2), 0);
        Check.same("hole of 1", lake.spearer(1, 2), 1);
        Check.same("go(1, -1)", lake.go(1, -1), 1);
        Check.same("go(1, -1) again", lake.go(1, -1), -1);
        Check.same("none at 1", lake.hole(1, 3), 0);
        Check.badIndex(lake, "go(-1, 0)", () -> lake.go(-1, 0));
        Check.badIndex(lake, "go(2, 0)", () -> lake.go(2, 0));
        Check.badIndex(lake, "go(0, 3)", () -> lake.go(0, 3));
        Check.badIndex(lake, "go(0, -2)", () -> lake.go(0, -2));
        lake.pass(1);
        Check.same("0 stays open", lake.go(1, 0), -1);
        Check.badState(lake, "2 is closed", () -> lake.go(1, 2));
        Check.badIndex(lake, "the index first", () -> lake.go(2, 2));
        Check.end();
    }
}
