/** Promise 4: cut. */
final class Promise04CutTest {
    public static void main(String[] args) {
        holesAreNumbered();
        aClosedHoleLeavesItsCell();
        atMostTwelve();
        theIceMustBear();
        Check.end();
    }

    private static void holesAreNumbered() {
        EelPermits lake = new EelPermits();
        Check.same("cut(2, 7)", lake.cut(2, 7), 0);
        Check.same("cut(7, 2)", lake.cut(7, 2), 1);
        Check.same("cut(0, 8)", lake.cut(0, 8), 2);
        Check.same("cut(8, 0)", lake.cut(8, 0), 3);
        Check.same("x of 0", lake.hole(0, 0), 2);
        Check.same("y of 0", lake.hole(0, 1), 7);
        Check.same("0 is open", lake.hole(0, 2), 1);
        Check.same("hole in (7, 2)", lake.cell(7, 2, 2), 1);
        Check.badState(lake, "cut(2, 7) again", () -> lake.cut(2, 7));
        Check.badIndex(lake, "cut(-1, 0)", () -> lake.cut(-1, 0));
        Check.badIndex(lake, "cut(9, 0)", () -> lake.cut(9, 0));
        Check.badIndex(lake, "cut(0, -1)", () -> lake.cut(0, -1));
        Check.badIndex(lake, "cut(0, 9)", () -> lake.cut(0, 9));
    }

    private static void aClosedHoleLeavesItsCell() {
        EelPermits lake = new EelPermits();
        lake.cut(4, 4);
        lake.pass(1);
        Check.same("closed by frost", lake.hole(0, 2), 0);
        Check.same("cut(4, 4) anew", lake.cut(4, 4), 1);
        Check.same("open one in (4, 4)", lake.cell(4, 4, 2), 1);
        Check.same("0 stays closed", lake.hole(0, 2), 0);
    }

    private static void atMostTwelve() {
        EelPermits lake = new EelPermits();
        for (int h = 0; h < 6; h++) {
            Check.same("cut", lake.cut(h, 0), h);
        }
        lake.pass(1);
        for (int h = 6; h < 12; h++) {
            Check.same("cut", lake.cut(h - 4, 1), h);
        }
        Check.badState(lake, "a 13th hole", () -> lake.cut(8, 8));
        Check.badIndex(lake, "the index first", () -> lake.cut(8, 9));
    }

    private static void theIceMustBear() {
        EelPermits five = new EelPermits();
        five.setFrost(0, -15);
        five.pass(1);
        Check.same("5 bear", five.cut(1, 1), 0);
        EelPermits four = new EelPermits();
        four.setFrost(0, -16);
        four.pass(1);
        Check.badState(four, "4 do not bear", () -> four.cut(1, 1));
        Check.badIndex(four, "the index first", () -> four.cut(1, -1));
    }
}
