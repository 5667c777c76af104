/**
 * A night's step 2, "Spearing", the promises 8 and 10, and the part of step 4 that counts catches: halves that are cut,
 * catches of at least 0 and of at most the eels that are there, catches of none.
 */
final class BoundsSpearsTest {
    public static void main(String[] args) {
        catches();
        byNumbers();
        othersHaveNone();
        whatIsTaken();
        Check.end();
    }

    private static void catches() {
        catchOf("at most the eels that are there: none", 0, 0, 0);
        catchOf("at most the eels that are there: half and 1 more of one", 1, 0, 1);
        catchOf("at most the eels that are there: just both", 2, 0, 2);
        catchOf("one fewer than are there", 3, 0, 2);
        catchOf("half, cut, of an odd number", 59, 0, 30);
        catchOf("half of the most eels", 60, 0, 31);
        catchOf("at least 0: no eels in some mud", 0, 1, 0);
        catchOf("at least 0: no eels in the most mud", 0, 9, 0);
        catchOf("as much less as its mud: just 0", 2, 2, 0);
        catchOf("as much less as its mud: just 1", 2, 1, 1);
        catchOf("at least 0: mud is one more", 2, 3, 0);
        catchOf("at least 0 in the most mud: far below", 1, 9, 0);
        catchOf("at least 0 in the most mud: 1 below", 15, 9, 0);
        catchOf("the most mud: just 0", 16, 9, 0);
        catchOf("the most mud: just 0, cut", 17, 9, 0);
        catchOf("the most mud: just 1", 18, 9, 1);
        catchOf("the most eels in the most mud", 60, 9, 22);
    }

    /** A spearer without a lamp catches what cell() has told, in a night. */
    private static void catchOf(String name, int eels, int mud, int due) {
        Check.test(name + ", as cell() tells it without a hole", () -> {
            EelPermits lake = Lakes.mild();
            lake.set(8, 0, eels, mud);
            Check.same("cell(8, 0, 3)", lake.cell(8, 0, 3), due);
        });
        Check.test(name + ", in a night", () -> {
            EelPermits lake = Lakes.mild();
            lake.set(8, 0, eels, mud);
            Lakes.spearerAt(lake, 30, 0, 8, 0);
            Check.same("cell(8, 0, 3) with a hole", lake.cell(8, 0, 3), due);
            Check.same("pass(1)", lake.pass(1), due);
            Check.same("catch", lake.spearer(0, 3), due);
            Check.same("eels in all", lake.spearer(0, 4), due);
            int left = eels - due;
            Check.same("left", lake.cell(8, 0, 0), left == 0 || left > 40 ? left : left + left / 10 + 1);
        });
    }

    private static void byNumbers() {
        Check.test("by numbers: the first takes all that there are, the next one nothing", () -> {
            EelPermits lake = Lakes.mild();
            lake.set(4, 4, 2, 0);
            threeAtOneHole(lake);
            lake.pass(1);
            Check.same("the first", lake.spearer(0, 3), 2);
            Check.same("the second", lake.spearer(1, 3), 0);
            Check.same("left", lake.cell(4, 4, 0), 0);
        });
        Check.test("by numbers: each takes of what is left", () -> {
            EelPermits lake = Lakes.mild();
            lake.set(4, 4, 60, 0);
            threeAtOneHole(lake);
            Check.same("pass(1)", lake.pass(1), 31 + 15 + 8);
            Check.same("the first", lake.spearer(0, 3), 31);
            Check.same("the second", lake.spearer(1, 3), 15);
            Check.same("the third", lake.spearer(2, 3), 8);
        });
        Check.test("cell() tells the catch of all that there are, though three spear there", () -> {
            EelPermits lake = Lakes.mild();
            lake.set(4, 4, 60, 0);
            threeAtOneHole(lake);
            Check.same("cell(4, 4, 3)", lake.cell(4, 4, 3), 31);
        });
    }

    private static void threeAtOneHole(EelPermits lake) {
        Lakes.spearerAt(lake, 30, 0, 4, 4);
        for (int s = 1; s < 3; s++) {
            lake.license(30, 0);
            lake.go(s, 0);
        }
    }

    private static void othersHaveNone() {
        Check.test("0 at first", () -> {
            EelPermits lake = Lakes.withSpearers(1);
            Check.same("catch", lake.spearer(0, 3), 0);
        });
        Check.test("of the latest night, until the next one", () -> {
            EelPermits lake = oneCatch();
            lake.go(0, -1);
            Check.same("catch", lake.spearer(0, 3), 11);
        });
        Check.test("that of all others is 0: of one who went away", () -> {
            EelPermits lake = oneCatch();
            lake.go(0, -1);
            Check.same("pass(1)", lake.pass(1), 0);
            Check.same("catch", lake.spearer(0, 3), 0);
            Check.same("eels in all", lake.spearer(0, 4), 11);
        });
        Check.test("that of all others is 0: of one who never was at a hole", () -> {
            EelPermits lake = oneCatch();
            lake.license(0, 4);
            lake.pass(1);
            Check.same("catch", lake.spearer(1, 3), 0);
            Check.same("eels in all", lake.spearer(1, 4), 0);
        });
        Check.test("that of all others is 0: of one whose hole closed in the night before", () -> {
            EelPermits lake = Lakes.mild();
            lake.set(4, 4, 60, 0);
            Lakes.spearerAt(lake, 30, 0, 4, 4);
            lake.setFrost(0, -16);
            Check.same("the last catch", lake.pass(1), 31);
            Check.same("catch", lake.spearer(0, 3), 31);
            Check.same("pass(1)", lake.pass(1), 0);
            Check.same("catch behind a night without a hole", lake.spearer(0, 3), 0);
        });
    }

    private static EelPermits oneCatch() {
        EelPermits lake = Lakes.mild();
        lake.set(4, 4, 20, 0);
        Lakes.spearerAt(lake, 30, 0, 4, 4);
        lake.pass(1);
        return lake;
    }

    private static void whatIsTaken() {
        Check.test("pass returns 0 without spearers", () -> {
            EelPermits lake = Lakes.mild();
            Lakes.setAllCells(lake, 60, 0);
            Check.same("pass(40)", lake.pass(40), 0);
            Check.same("all eels of the lake", lake.count(3), 81 * 60);
        });
        Check.test("pass returns 0 in a lake without eels", () -> {
            EelPermits lake = Lakes.mild();
            Lakes.spearerAt(lake, 30, 4, 4, 4);
            Check.same("pass(40)", lake.pass(40), 0);
        });
        Check.test("pass returns the catches of all nights, the first and the last too", () -> {
            EelPermits lake = Lakes.mild();
            lake.set(4, 4, 60, 0);
            Lakes.spearerAt(lake, 30, 0, 4, 4);
            // 29 are left and 3 come; then 17 of 32, and 15 are left
            Check.same("pass(2)", lake.pass(2), 31 + 17);
            Check.same("catch", lake.spearer(0, 3), 17);
            Check.same("eels in all", lake.spearer(0, 4), 48);
        });
        Check.test("pass returns the catches of these nights alone", () -> {
            EelPermits lake = Lakes.mild();
            lake.set(4, 4, 60, 0);
            Lakes.spearerAt(lake, 30, 0, 4, 4);
            lake.pass(1);
            Check.same("pass(1)", lake.pass(1), 17);
        });
    }
}
