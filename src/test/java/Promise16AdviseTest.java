/** Promise 16: advise. */
final class Promise16AdviseTest {
    public static void main(String[] args) {
        fiveNightsCount();
        ofSeveralTheSmallestNumber();
        onlyOpenHoles();
        theOwnEelsCount();
        wardensAndIceCount();
        asTryingAllHolesShows();
        refusals();
        Check.end();
    }

    private static void fiveNightsCount() {
        // behind 4 nights 57 and 57, behind 5 nights 60 and 61
        Check.same("not 4 nights", Lakes.twoHoles(57, 2, 60, 4).advise(0), 1);
        // behind 6 nights the hole 0 would be the better one
        Check.same("not 6 nights", Lakes.twoHoles(48, 5, 43, 1).advise(0), 1);
    }

    private static void ofSeveralTheSmallestNumber() {
        Check.same("both alike", Lakes.twoHoles(30, 1, 30, 1).advise(0), 0);
        Check.same("nothing in both", Lakes.twoHoles(0, 0, 0, 0).advise(0), 0);
        EelPermits lake = Lakes.twoHoles(0, 0, 0, 0);
        lake.go(0, 1);
        Check.same("nothing in both, being at 1", lake.advise(0), 0);
        Check.same("still at 1", lake.spearer(0, 2), 1);
    }

    private static void onlyOpenHoles() {
        EelPermits lake = new EelPermits();
        lake.license(30, 0);
        Check.same("no hole", lake.advise(0), -1);
        lake.license(30, 0);
        lake.set(1, 1, 60, 0);
        lake.cut(1, 1);
        lake.cut(2, 2);
        lake.cut(3, 3);
        Check.same("the best", lake.advise(0), 0);
        lake.go(0, 1);
        lake.go(1, 2);
        lake.pass(1);
        Check.same("0 froze over", lake.advise(0), 1);
        lake.go(0, -1);
        lake.pass(1);
        Check.same("1 froze over", lake.advise(0), 2);
        lake.go(1, -1);
        lake.pass(1);
        Check.same("all froze over", lake.advise(0), -1);
    }

    /** At 0 others spear first, and at 1 there is less, but for this one alone. */
    private static void theOwnEelsCount() {
        EelPermits lake = Lakes.mild();
        lake.set(1, 1, 60, 4);
        lake.set(7, 7, 30, 4);
        lake.cut(1, 1);
        lake.cut(7, 7);
        for (int s = 0; s < 4; s++) {
            lake.license(30, 0);
            lake.go(s, 0);
        }
        Check.same("the first one", lake.advise(0), 0);
        Check.same("the last one", lake.advise(3), 1);
        EelPermits lamps = Lakes.mild();
        lamps.cut(1, 1);
        lamps.cut(7, 7);
        lamps.set(1, 1, 12, 0);
        for (int x = 5; x <= 8; x++) {
            lamps.set(x, 5, 50, 0);
        }
        lamps.license(30, 1);
        lamps.license(30, 2);
        Check.same("a weak lamp", lamps.advise(0), 0);
        Check.same("a strong lamp", lamps.advise(1), 1);
    }

    private static void wardensAndIceCount() {
        EelPermits lake = Lakes.twoHoles(60, 0, 20, 0);
        lake.license(1, 0);
        lake.license(30, 0);
        lake.warden(0, 0, 1);
        Check.same("1 a night at 0, some more at 1", lake.advise(1), 1);
        Check.same("the one with the great permit", lake.advise(2), 0);
        EelPermits thaw = Lakes.twoHoles(57, 2, 60, 4);
        thaw.set(1, 1, 57, 1);
        thaw.set(6, 6, 60, 2);
        Check.same("with ice for 5 nights", thaw.advise(0), 1);
        thaw.set(6, 6, 58, 2);
        thaw.setFrost(0, -16);
        Check.same("with ice for 1 night, 28 and 28", thaw.advise(0), 0);
    }

    private static void asTryingAllHolesShows() {
        for (int kind = 0; kind < 60; kind++) {
            EelPermits lake = busyLake(kind);
            long before = lake.digest();
            for (int s = 0; s < 5; s++) {
                Check.same("kind " + kind + ", advise(" + s + ")", lake.advise(s), bestByTrying(kind, s));
            }
            Check.same("nothing is changed", lake.digest(), before);
        }
    }

    private static int bestByTrying(int kind, int spearer) {
        int best = -1;
        int most = -1;
        for (int h = 0; h < 7; h++) {
            EelPermits lake = busyLake(kind);
            if (lake.hole(h, 2) == 1) {
                lake.go(spearer, h);
                lake.pass(5);
                if (lake.spearer(spearer, 4) > most) {
                    most = lake.spearer(spearer, 4);
                    best = h;
                }
            }
        }
        return best;
    }

    private static void refusals() {
        EelPermits lake = new EelPermits();
        Check.badIndex(lake, "advise(0)", () -> lake.advise(0));
        lake.license(1, 1);
        Check.badIndex(lake, "advise(-1)", () -> lake.advise(-1));
        Check.badIndex(lake, "advise(1)", () -> lake.advise(1));
        Check.badIndex(lake, "advise(MAX)", () -> lake.advise(Integer.MAX_VALUE));
    }

    private static EelPermits busyLake(int kind) {
        EelPermits lake = new EelPermits();
        for (int night = 0; night < 7; night++) {
            lake.setFrost(night, (kind * 5 + night * 7) % 12 - 6);
        }
        for (int c = 0; c < 81; c++) {
            lake.set(c % 9, c / 9, (c * 7 + kind * 13) * (c % 3) % 61, (c + kind) % 5);
        }
        for (int h = 0; h < 7; h++) {
            lake.cut((h * 2 + kind) % 9, (h + kind / 9) % 9);
        }
        for (int s = 0; s < 5; s++) {
            lake.license((kind * 3 + s * 8) % 31, (kind + s) % 5);
            lake.go(s, (kind + s * s) % 7);
        }
        lake.warden(kind % 9, 4, 1 + kind % 8);
        lake.warden(4, (kind * 2) % 9, 1 + (kind + 3) % 8);
        lake.pass(1 + kind % 2);
        return lake;
    }
}
