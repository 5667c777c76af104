/**
 * Terms, "Holes", and the promises 4, 6, 8 and 9: twelve holes and no more, ice that just bears, one open hole in a
 * cell, closed for good, none and the most of what is told of a hole.
 */
final class BoundsHolesTest {
    public static void main(String[] args) {
        atMostTwelve();
        theIceMustBear();
        oneOpenInACell();
        closedForGood();
        theHoleOfACell();
        spearersAtAHole();
        theNearestWarden();
        Check.end();
    }

    private static void atMostTwelve() {
        Check.test("the 12th hole is cut", () -> {
            EelPermits lake = Lakes.withHoles(11);
            Check.same("cut(8, 8)", lake.cut(8, 8), 11);
            Check.same("count(4)", lake.count(4), 12);
            Check.same("count(5)", lake.count(5), 12);
        });
        Check.test("a 13th hole is not cut", () -> {
            EelPermits lake = Lakes.withHoles(12);
            Check.badState(lake, "cut(8, 8)", () -> lake.cut(8, 8));
        });
        Check.test("12 in all: closed ones count, the 12th is cut", () -> {
            EelPermits lake = closed(11);
            Check.same("cut(8, 8)", lake.cut(8, 8), 11);
            Check.same("count(5)", lake.count(5), 1);
        });
        Check.test("12 in all: closed ones count, a 13th is not cut", () -> {
            EelPermits lake = closed(12);
            Check.same("count(5)", lake.count(5), 0);
            Check.badState(lake, "cut(0, 0)", () -> lake.cut(0, 0));
        });
        Check.test("numbered from 0 in the order of their cutting", () -> {
            EelPermits lake = new EelPermits();
            Check.same("cut(8, 8)", lake.cut(8, 8), 0);
            Check.same("cut(0, 0)", lake.cut(0, 0), 1);
            Check.same("x of the first one", lake.hole(0, 0), 8);
        });
        Check.test("open at first", () -> {
            EelPermits lake = new EelPermits();
            Check.same("hole(0, 2)", lake.hole(lake.cut(8, 8), 2), 1);
        });
    }

    /** So many holes, over which it froze. */
    private static EelPermits closed(int holes) {
        EelPermits lake = Lakes.withHoles(holes);
        lake.setFrost(0, 1);
        lake.pass(1);
        return lake;
    }

    private static void theIceMustBear() {
        for (int thick = 5; thick <= 90; thick += 85) {
            int ice = thick;
            Check.test("a hole is cut in ice of " + ice, () -> {
                EelPermits lake = Lakes.withIce(ice);
                Check.same("cut(0, 8)", lake.cut(0, 8), 0);
            });
        }
        for (int thick = 0; thick <= 4; thick += 4) {
            int ice = thick;
            Check.test("no hole is cut in ice of " + ice, () -> {
                EelPermits lake = Lakes.withIce(ice);
                Check.badState(lake, "cut(0, 8)", () -> lake.cut(0, 8));
            });
        }
    }

    private static void oneOpenInACell() {
        Check.test("no second open hole in a cell", () -> {
            EelPermits lake = Lakes.mild();
            lake.cut(4, 4);
            Check.badState(lake, "cut(4, 4)", () -> lake.cut(4, 4));
        });
        Check.test("none where the last of 11 holes is", () -> {
            EelPermits lake = Lakes.withHoles(11);
            Check.badState(lake, "cut(1, 8)", () -> lake.cut(1, 8));
        });
        Check.test("holes in all the cells beside it", () -> {
            EelPermits lake = Lakes.mild();
            lake.cut(4, 4);
            int[][] beside = {{3, 4}, {5, 4}, {4, 3}, {4, 5}, {3, 3}, {5, 5}, {3, 5}, {5, 3}};
            for (int h = 0; h < beside.length; h++) {
                Check.same("cut", lake.cut(beside[h][0], beside[h][1]), h + 1);
            }
        });
        Check.test("a hole in the cell of a closed one", () -> {
            EelPermits lake = closed(1);
            Check.same("cut(0, 0)", lake.cut(0, 0), 1);
            Check.same("the open one", lake.cell(0, 0, 2), 1);
        });
        Check.test("no third one while the second is open", () -> {
            EelPermits lake = closed(1);
            lake.cut(0, 0);
            Check.badState(lake, "cut(0, 0)", () -> lake.cut(0, 0));
        });
    }

    private static void closedForGood() {
        Check.test("closed by frost, nobody goes there", () -> {
            EelPermits lake = closed(2);
            lake.license(1, 1);
            Check.badState(lake, "go(0, 1)", () -> lake.go(0, 1));
        });
        Check.test("closed by thaw, nobody goes there", () -> {
            EelPermits lake = thawedAndFrozen();
            Check.badState(lake, "go(0, 0)", () -> lake.go(0, 0));
        });
        Check.test("closed by thaw, closed though the ice bears again", () -> {
            EelPermits lake = thawedAndFrozen();
            Check.same("count(2)", lake.count(2), 1);
            Check.same("hole(0, 2)", lake.hole(0, 2), 0);
        });
        Check.test("closed, though a new one is cut in its cell", () -> {
            EelPermits lake = thawedAndFrozen();
            lake.go(0, lake.cut(3, 3));
            lake.pass(1);
            Check.same("hole(0, 2)", lake.hole(0, 2), 0);
            Check.same("hole(1, 2)", lake.hole(1, 2), 1);
            Check.badState(lake, "go(0, 0)", () -> lake.go(0, 0));
        });
        Check.test("an open one may be gone to", () -> {
            EelPermits lake = thawedAndFrozen();
            lake.cut(3, 3);
            Check.same("go(0, 1)", lake.go(0, 1), -1);
        });
    }

    /** The hole 0 closed as the ice was 4 thick; it is 5 again. */
    private static EelPermits thawedAndFrozen() {
        EelPermits lake = Lakes.mild();
        Lakes.spearerAt(lake, 1, 1, 3, 3);
        lake.setFrost(0, -16);
        lake.setFrost(1, 1);
        lake.pass(2);
        return lake;
    }

    private static void theHoleOfACell() {
        Check.test("the open hole in it: the first and the last of 12", () -> {
            EelPermits lake = Lakes.withHoles(12);
            Check.same("cell(0, 0, 2)", lake.cell(0, 0, 2), 0);
            Check.same("cell(2, 8, 2)", lake.cell(2, 8, 2), 11);
        });
        Check.test("-1 without one: beside a hole", () -> {
            EelPermits lake = Lakes.withHoles(12);
            Check.same("cell(3, 8, 2)", lake.cell(3, 8, 2), -1);
            Check.same("cell(2, 7, 2)", lake.cell(2, 7, 2), -1);
        });
        Check.test("-1 without one: a closed one is none", () -> {
            EelPermits lake = closed(1);
            Check.same("cell(0, 0, 2)", lake.cell(0, 0, 2), -1);
        });
    }

    private static void spearersAtAHole() {
        for (int some = 0; some <= 8; some += some == 0 ? 1 : 7) {
            int spearers = some;
            Check.test("spearers at it: " + spearers + " of 8", () -> {
                EelPermits lake = Lakes.withSpearers(8);
                for (int s = 8 - spearers; s < 8; s++) {
                    lake.go(s, 11);
                }
                Check.same("hole(11, 3)", lake.hole(11, 3), spearers);
                Check.same("hole(10, 3)", lake.hole(10, 3), 0);
            });
        }
        Check.test("spearers at it: none at a closed one", () -> {
            EelPermits lake = thawedAndFrozen();
            Check.same("hole(0, 3)", lake.hole(0, 3), 0);
        });
    }

    private static void theNearestWarden() {
        Check.test("-1 without one", () -> Check.same("hole(0, 4)", Lakes.withHoles(1).hole(0, 4), -1));
        Check.test("0 where the warden is", () -> {
            EelPermits lake = Lakes.withHoles(1);
            lake.warden(0, 0, 8);
            Check.same("hole(0, 4)", lake.hole(0, 4), 0);
        });
        Check.test("8 from the farthest cell", () -> {
            EelPermits lake = Lakes.withHoles(1);
            lake.warden(8, 8, 8);
            Check.same("hole(0, 4)", lake.hole(0, 4), 8);
        });
        for (int nearest = 0; nearest < 3; nearest++) {
            int near = nearest;
            Check.test("the nearest of 3 is the one of number " + near, () -> {
                EelPermits lake = Lakes.withHoles(1);
                for (int w = 0; w < 3; w++) {
                    lake.warden(w == near ? 6 : 7, 2, 1);
                }
                Check.same("hole(0, 4)", lake.hole(0, 4), 6);
            });
        }
        Check.test("how far it is from a closed one", () -> {
            EelPermits lake = closed(1);
            Check.same("hole(0, 4) without a warden", lake.hole(0, 4), -1);
            lake.warden(3, 5, 1);
            Check.same("hole(0, 4)", lake.hole(0, 4), 5);
        });
    }
}
