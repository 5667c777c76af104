/** Lakes that the tests begin with. */
final class Lakes {
    private Lakes() {
    }

    /** A lake whose ice stays as it is and where no hole freezes over. */
    static EelPermits mild() {
        EelPermits lake = new EelPermits();
        setAllFrost(lake, 0);
        return lake;
    }

    static void setAllFrost(EelPermits lake, int frost) {
        for (int night = 0; night < 7; night++) {
            lake.setFrost(night, frost);
        }
    }

    static void setAllCells(EelPermits lake, int eels, int mud) {
        for (int c = 0; c < 81; c++) {
            lake.set(c % 9, c / 9, eels, mud);
        }
    }

    /** A mild lake some nights later, with ice of just this thickness; 5 nights are enough for any. */
    static EelPermits withIce(int thick) {
        EelPermits lake = mild();
        for (int i = 0; i < 5; i++) {
            int change = Math.max(-20, Math.min(20, thick - lake.count(1)));
            lake.setFrost(lake.count(0) % 7, change);
            lake.pass(1);
        }
        setAllFrost(lake, 0);
        return lake;
    }

    static EelPermits withHoles(int holes) {
        EelPermits lake = mild();
        for (int h = 0; h < holes; h++) {
            lake.cut(h % 9, h / 9 * 8);
        }
        return lake;
    }

    /** The holes are cut, and nobody is at one. */
    static EelPermits withSpearers(int spearers) {
        EelPermits lake = withHoles(12);
        for (int s = 0; s < spearers; s++) {
            lake.license(2, 0);
        }
        return lake;
    }

    static EelPermits withWardens(int wardens) {
        EelPermits lake = mild();
        for (int w = 0; w < wardens; w++) {
            lake.warden(4, 4, 1 + w);
        }
        return lake;
    }

    /**
     * All the holes and people that there may be. The spearers 0 to 7 are at the holes 0 to 7, alone, and may keep the
     * 2 eels that they take at first.
     */
    static EelPermits full() {
        EelPermits lake = withSpearers(8);
        for (int h = 0; h < 12; h++) {
            lake.set(h % 9, h / 9 * 8, 3, 0);
        }
        for (int s = 0; s < 8; s++) {
            lake.go(s, s);
        }
        for (int w = 0; w < 3; w++) {
            lake.warden(4, 4, 1 + w);
        }
        return lake;
    }

    /** Holes at 1, 1 and at 6, 6 with so many eels in so much mud, and a spearer at none. */
    static EelPermits twoHoles(int eels, int mud, int otherEels, int otherMud) {
        EelPermits lake = Lakes.mild();
        lake.set(1, 1, eels, mud);
        lake.set(6, 6, otherEels, otherMud);
        lake.cut(1, 1);
        lake.cut(6, 6);
        lake.license(30, 0);
        return lake;
    }

    /** From 33 in the night 1 the ice loses 1 a week, so that it bears no longer behind 29 losses. */
    static EelPermits losingOneAWeek(int night) {
        EelPermits lake = Lakes.mild();
        lake.setFrost(0, 13);
        lake.pass(1);
        lake.setFrost(0, 0);
        lake.setFrost(night, -1);
        return lake;
    }

    /** A new spearer at a new hole; answers the spearer. */
    static int spearerAt(EelPermits lake, int permit, int light, int x, int y) {
        int spearer = lake.license(permit, light);
        lake.go(spearer, lake.cut(x, y));
        return spearer;
    }
}
