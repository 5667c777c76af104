/** Promise 13 and step 3 of a night: wardens go and fine. */
final class Promise13WardensTest {
    public static void main(String[] args) {
        byPaceInBothDirections();
        toTheNearest();
        ofSeveralTheSmallestNumber();
        onlyForMoreThanThePermit();
        theNextOneSeesWhatIsLeft();
        allWhoTookTooMuch();
        notOnTheWay();
        Check.end();
    }

    private static void byPaceInBothDirections() {
        EelPermits lake = Lakes.mild();
        Lakes.spearerAt(lake, 0, 0, 8, 2);
        lake.warden(0, 4, 3);
        lake.set(8, 2, 60, 0);
        lake.pass(1);
        isIn(lake, 0, 3, 2);
        Check.same("not there yet", lake.about(0, 3), 0);
        lake.set(8, 2, 60, 0);
        lake.pass(1);
        isIn(lake, 0, 6, 2);
        lake.set(8, 2, 60, 0);
        Check.same("pass(1)", lake.pass(1), 0);
        isIn(lake, 0, 8, 2);
        Check.same("fines given", lake.about(0, 3), 1);
        Check.same("fines had", lake.spearer(0, 5), 1);
        Check.same("given back", lake.cell(8, 2, 0), 60);
        lake.set(8, 2, 0, 0);
        lake.pass(1);
        isIn(lake, 0, 8, 2);
        Check.same("no fine for nothing", lake.about(0, 3), 1);
    }

    private static void toTheNearest() {
        EelPermits lake = Lakes.mild();
        Lakes.spearerAt(lake, 3, 0, 0, 0);
        Lakes.spearerAt(lake, 3, 0, 7, 7);
        lake.set(0, 0, 60, 0);
        lake.set(7, 7, 20, 0);
        lake.warden(3, 4, 1);
        lake.warden(4, 3, 4);
        lake.warden(4, 3, 5);
        lake.pass(1);
        // both holes are 4 away from each warden, so that the first two choose the hole 0
        isIn(lake, 0, 2, 3);
        isIn(lake, 1, 0, 0);
        isIn(lake, 2, 7, 7);
        Check.same("by the second warden", lake.spearer(0, 5), 1);
        Check.same("by the third warden, as 0 was fined", lake.spearer(1, 5), 1);
        fartherByXOrByY(1, 4);
        fartherByXOrByY(4, 1);
        nearToTheOther();
    }

    /** The warden in (4, 4) is 3 away from the hole 0, though in one direction alone, and 2 away from the hole 1. */
    private static void fartherByXOrByY(int x, int y) {
        EelPermits lake = Lakes.mild();
        Lakes.spearerAt(lake, 3, 0, x, y);
        Lakes.spearerAt(lake, 3, 0, 6, 6);
        lake.set(x, y, 20, 0);
        lake.set(6, 6, 20, 0);
        lake.warden(4, 4, 8);
        lake.pass(1);
        isIn(lake, 0, 6, 6);
    }

    private static void nearToTheOther() {
        EelPermits near = Lakes.mild();
        Lakes.spearerAt(near, 3, 0, 0, 0);
        Lakes.spearerAt(near, 3, 0, 7, 7);
        near.set(0, 0, 60, 0);
        near.set(7, 7, 20, 0);
        near.warden(4, 5, 8);
        near.pass(1);
        isIn(near, 0, 7, 7);
    }

    private static void ofSeveralTheSmallestNumber() {
        EelPermits lake = Lakes.mild();
        Lakes.spearerAt(lake, 0, 0, 8, 4);
        Lakes.spearerAt(lake, 0, 0, 0, 4);
        lake.set(8, 4, 10, 0);
        lake.set(0, 4, 10, 0);
        lake.warden(4, 4, 8);
        lake.pass(1);
        isIn(lake, 0, 8, 4);
    }

    private static void onlyForMoreThanThePermit() {
        EelPermits lake = Lakes.mild();
        Lakes.spearerAt(lake, 6, 0, 1, 1);
        lake.set(1, 1, 10, 0);
        lake.warden(4, 4, 8);
        Check.same("6 of 6", lake.pass(1), 6);
        isIn(lake, 0, 4, 4);
        Check.same("no fine", lake.count(8), 0);
        lake.set(1, 1, 12, 0);
        Check.same("7, but 6 are left", lake.pass(1), 6);
        isIn(lake, 0, 1, 1);
        Check.same("catch", lake.spearer(0, 3), 6);
        Check.same("eels in all", lake.spearer(0, 4), 12);
        Check.same("5, 1 given back, 1 come", lake.cell(1, 1, 0), 7);
        Check.same("a fine", lake.count(8), 1);
    }

    private static void theNextOneSeesWhatIsLeft() {
        EelPermits lake = Lakes.mild();
        Lakes.spearerAt(lake, 2, 0, 4, 4);
        lake.set(4, 4, 50, 0);
        lake.warden(5, 5, 1);
        lake.warden(3, 3, 1);
        lake.pass(1);
        isIn(lake, 0, 4, 4);
        isIn(lake, 1, 3, 3);
        Check.same("one fine", lake.spearer(0, 5), 1);
        Check.same("by the first", lake.about(0, 3), 1);
        Check.same("not by the second", lake.about(1, 3), 0);
    }

    private static void allWhoTookTooMuch() {
        EelPermits lake = Lakes.mild();
        int[] permits = {4, 30, 1, 0};
        lake.cut(4, 4);
        for (int s = 0; s < 4; s++) {
            lake.license(permits[s], 0);
            lake.go(s, 0);
        }
        lake.set(4, 4, 60, 0);
        lake.warden(4, 4, 1);
        // 31, 15, 8 and 4 are caught, 2 are left
        Check.same("pass(1)", lake.pass(1), 4 + 15 + 1 + 0);
        int[] caught = {4, 15, 1, 0};
        int[] fines = {1, 0, 1, 1};
        for (int s = 0; s < 4; s++) {
            Check.same("catch of " + s, lake.spearer(s, 3), caught[s]);
            Check.same("fines of " + s, lake.spearer(s, 5), fines[s]);
        }
        Check.same("fines given", lake.about(0, 3), 3);
        Check.same("given back, and 4 and 1 come", lake.cell(4, 4, 0), 2 + 27 + 7 + 4 + 5);
    }

    private static void notOnTheWay() {
        EelPermits lake = Lakes.mild();
        Lakes.spearerAt(lake, 0, 0, 8, 0);
        lake.cut(2, 0);
        lake.license(30, 0);
        lake.go(1, 1);
        lake.set(8, 0, 20, 0);
        lake.set(2, 0, 40, 0);
        lake.warden(0, 0, 2);
        lake.pass(1);
        isIn(lake, 0, 2, 0);
        Check.same("no fine by being there", lake.count(8), 0);
    }

    private static void isIn(EelPermits lake, int warden, int x, int y) {
        Check.same("x of warden " + warden, lake.about(warden, 0), x);
        Check.same("y of warden " + warden, lake.about(warden, 1), y);
    }
}
