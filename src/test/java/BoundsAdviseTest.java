/**
 * Promise 16: the first and the last hole, several that are alike, none that is open, five nights and neither four nor
 * six, and that nothing is changed.
 */
final class BoundsAdviseTest {
    public static void main(String[] args) {
        noneIsOpen();
        oneIsOpen();
        ofSeveral();
        oneMore();
        fiveNights();
        nothingIsChanged();
        Check.end();
    }

    private static void noneIsOpen() {
        Check.test("-1 if no hole is open: there is none", () -> {
            EelPermits lake = new EelPermits();
            lake.license(30, 4);
            Check.same("advise(0)", lake.advise(0), -1);
        });
        Check.test("-1 if no hole is open: frost has closed all 12", () -> {
            EelPermits lake = Lakes.withSpearers(8);
            lake.setFrost(0, 1);
            lake.pass(1);
            Check.same("advise(0)", lake.advise(0), -1);
            Check.same("advise(7)", lake.advise(7), -1);
        });
        Check.test("-1 if no hole is open: the ice does not bear", () -> {
            EelPermits lake = Lakes.full();
            lake.setFrost(0, -16);
            lake.pass(1);
            Check.same("advise(0)", lake.advise(0), -1);
            Check.same("advise(7)", lake.advise(7), -1);
        });
        Check.test("-1 if no hole is open, though there are eels in all from before", () -> {
            EelPermits lake = Lakes.full();
            lake.setFrost(0, -16);
            lake.pass(1);
            Check.same("eels in all", lake.spearer(7, 4), 2);
            Check.same("advise(7)", lake.advise(7), -1);
        });
    }

    private static void oneIsOpen() {
        for (int of = 0; of <= 11; of += 11) {
            int hole = of;
            Check.test("the only open one of 12: " + hole + ", without an eel", () -> {
                EelPermits lake = Lakes.withSpearers(2);
                lake.setFrost(0, 1);
                lake.go(1, hole);
                lake.pass(1);
                Check.same("advise(0)", lake.advise(0), hole);
                Check.same("advise(1)", lake.advise(1), hole);
            });
        }
        Check.test("a closed one is not told, though its cell has the most", () -> {
            EelPermits lake = Lakes.withSpearers(2);
            lake.set(0, 0, 60, 0);
            lake.setFrost(0, 1);
            lake.go(1, 11);
            lake.pass(1);
            Check.same("advise(0)", lake.advise(0), 11);
        });
    }

    private static void ofSeveral() {
        Check.test("of several the one with the smallest number: 12 without an eel", () -> {
            EelPermits lake = Lakes.withSpearers(8);
            Check.same("advise(0)", lake.advise(0), 0);
            Check.same("advise(7)", lake.advise(7), 0);
        });
        Check.test("of several: 12 with as many eels", () -> {
            EelPermits lake = Lakes.withSpearers(1);
            Lakes.setAllCells(lake, 30, 3);
            lake.go(0, 11);
            Check.same("advise(0)", lake.advise(0), 0);
        });
        Check.test("of several: the first one is closed", () -> {
            EelPermits lake = Lakes.withSpearers(3);
            lake.setFrost(0, 1);
            lake.go(1, 4);
            lake.go(2, 9);
            lake.pass(1);
            Check.same("advise(0)", lake.advise(0), 4);
        });
        Check.test("of several: the last two alike, and better than the first", () -> {
            EelPermits lake = Lakes.withSpearers(1);
            lake.set(1, 8, 30, 3);
            lake.set(2, 8, 30, 3);
            Check.same("advise(0)", lake.advise(0), 10);
        });
    }

    private static void oneMore() {
        Check.test("the most eels: the last one, by one eel", () -> {
            EelPermits lake = Lakes.withSpearers(1);
            lake.set(2, 8, 1, 0);
            Check.same("advise(0)", lake.advise(0), 11);
        });
        Check.test("the most eels: the first one, by one eel", () -> {
            EelPermits lake = Lakes.withSpearers(1);
            lake.set(0, 0, 2, 0);
            lake.set(2, 8, 1, 0);
            lake.go(0, 11);
            Check.same("advise(0)", lake.advise(0), 0);
        });
        Check.test("the own ones, not those of all", () -> {
            EelPermits lake = sharedOrAlone();
            // 21 at 1, where the second one then has fewer, and 13 at 0
            Check.same("the first one", lake.advise(0), 1);
            Check.same("the second one", lake.advise(1), 1);
            Check.same("all have fewer so", sharedOrAlone(1) < sharedOrAlone(0) ? 1 : 0, 1);
        });
    }

    /** The second spearer is at the hole 1, the first one at none. */
    private static EelPermits sharedOrAlone() {
        EelPermits lake = Lakes.mild();
        lake.set(7, 7, 10, 0);
        lake.set(1, 1, 40, 9);
        lake.cut(7, 7);
        lake.license(30, 0);
        Lakes.spearerAt(lake, 30, 0, 1, 1);
        return lake;
    }

    /** What both have behind 5 nights with the first one at this hole. */
    private static int sharedOrAlone(int hole) {
        EelPermits lake = sharedOrAlone();
        lake.go(0, hole);
        return lake.pass(5);
    }

    private static int eelsAt(EelPermits lake, int hole, int nights) {
        lake.go(0, hole);
        lake.pass(nights);
        return lake.spearer(0, 4);
    }

    private static void fiveNights() {
        Check.test("behind 5 nights, though behind 4 the first one is as good", () -> {
            Check.same("4 nights at 0", eelsAt(Lakes.twoHoles(57, 2, 60, 4), 0, 4), 57);
            Check.same("4 nights at 1", eelsAt(Lakes.twoHoles(57, 2, 60, 4), 1, 4), 57);
            Check.same("5 nights at 0", eelsAt(Lakes.twoHoles(57, 2, 60, 4), 0, 5), 60);
            Check.same("5 nights at 1", eelsAt(Lakes.twoHoles(57, 2, 60, 4), 1, 5), 61);
            Check.same("advise(0)", Lakes.twoHoles(57, 2, 60, 4).advise(0), 1);
        });
        Check.test("behind 5 nights, though behind 6 the first one is as good", () -> {
            int first = eelsAt(Lakes.twoHoles(48, 5, 43, 1), 0, 6);
            int second = eelsAt(Lakes.twoHoles(48, 5, 43, 1), 1, 6);
            Check.same("6 nights: the first one is no worse", first >= second ? 1 : 0, 1);
            first = eelsAt(Lakes.twoHoles(48, 5, 43, 1), 0, 5);
            second = eelsAt(Lakes.twoHoles(48, 5, 43, 1), 1, 5);
            Check.same("5 nights: the second one is better", second > first ? 1 : 0, 1);
            Check.same("advise(0)", Lakes.twoHoles(48, 5, 43, 1).advise(0), 1);
        });
        Check.test("with ice that bears for 1 night, as many in both", () -> {
            EelPermits lake = Lakes.twoHoles(54, 2, 57, 3);
            Check.same("1 night at 0", eelsAt(Lakes.twoHoles(54, 2, 57, 3), 0, 1), 26);
            Check.same("1 night at 1", eelsAt(Lakes.twoHoles(54, 2, 57, 3), 1, 1), 26);
            Check.same("with ice for 5 nights", lake.advise(0), 1);
            lake.setFrost(0, -16);
            Check.same("with ice for 1 night", lake.advise(0), 0);
        });
    }

    private static void nothingIsChanged() {
        Check.test("nothing is changed: at none", () -> {
            EelPermits lake = Lakes.twoHoles(57, 2, 60, 4);
            long before = lake.digest();
            lake.advise(0);
            Check.same("digest()", lake.digest(), before);
            Check.same("spearer(0, 2)", lake.spearer(0, 2), -1);
        });
        Check.test("nothing is changed: at the worse hole", () -> {
            EelPermits lake = Lakes.twoHoles(57, 2, 60, 4);
            lake.go(0, 0);
            long before = lake.digest();
            Check.same("advise(0)", lake.advise(0), 1);
            Check.same("digest()", lake.digest(), before);
            Check.same("spearer(0, 2)", lake.spearer(0, 2), 0);
        });
        Check.test("nothing is changed: a full lake, all 8", () -> {
            EelPermits lake = Lakes.full();
            long before = lake.digest();
            for (int s = 0; s < 8; s++) {
                lake.advise(s);
            }
            Check.same("digest()", lake.digest(), before);
        });
    }
}
