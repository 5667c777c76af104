import java.util.function.Supplier;

/**
 * Promises 2 to 16, the sentences "throws .. if .. is not ..": each argument of each call at the least and the greatest
 * number that is allowed, and one below and one above them.
 */
final class BoundsArgumentsTest {
    public static void main(String[] args) {
        set();
        setFrost();
        cut();
        license();
        goSpearers();
        goHoles();
        warden();
        cell();
        holes();
        spearers();
        wardens();
        count();
        pass();
        foresee();
        advise();
        Check.end();
    }

    private static Bounds index(String name, Supplier<EelPermits> lakes, Bounds.Call call) {
        return new Bounds(name, Bounds.INDEX, lakes, call);
    }

    private static Bounds argument(String name, Supplier<EelPermits> lakes, Bounds.Call call) {
        return new Bounds(name, Bounds.ARGUMENT, lakes, call);
    }

    private static int eelsOf(int x, int y) {
        return (9 * y + x) % 61;
    }

    private static int mudOf(int x, int y) {
        return (x + 3 * y) % 10;
    }

    private static int bothOf(int x, int y) {
        return 10 * eelsOf(x, y) + mudOf(x, y);
    }

    /** No two cells that are mirrored have the same eels. */
    private static EelPermits cellsApart() {
        EelPermits lake = Lakes.mild();
        for (int c = 0; c < 81; c++) {
            lake.set(c % 9, c / 9, eelsOf(c % 9, c / 9), mudOf(c % 9, c / 9));
        }
        return lake;
    }

    private static EelPermits frostsApart() {
        EelPermits lake = new EelPermits();
        for (int night = 0; night < 7; night++) {
            lake.setFrost(night, 3 * night - 9);
        }
        return lake;
    }

    private static void set() {
        Supplier<EelPermits> lakes = BoundsArgumentsTest::cellsApart;
        index("set, x", lakes, (lake, x) -> lake.set(x, 4, 7, 3)).hold(0, 8, x -> bothOf(x, 4));
        index("set, y", lakes, (lake, y) -> lake.set(5, y, 7, 3)).hold(0, 8, y -> bothOf(5, y));
        argument("set, eels", lakes, (lake, eels) -> lake.set(5, 4, eels, 3)).hold(0, 60, eels -> bothOf(5, 4));
        argument("set, mud", lakes, (lake, mud) -> lake.set(5, 4, 7, mud)).hold(0, 9, mud -> bothOf(5, 4));
        argument("set twice, eels", lakes, (lake, eels) -> setTwice(lake, eels, 3)).hold(0, 60, eels -> 10 * eels + 3);
        argument("set twice, mud", lakes, (lake, mud) -> setTwice(lake, 7, mud)).hold(0, 9, mud -> 70 + mud);
    }

    private static int setTwice(EelPermits lake, int eels, int mud) {
        lake.set(5, 4, eels, mud);
        return lake.set(5, 4, 1, 1);
    }

    private static void setFrost() {
        Supplier<EelPermits> lakes = BoundsArgumentsTest::frostsApart;
        index("setFrost, night", lakes, (lake, night) -> lake.setFrost(night, 1)).hold(0, 6, night -> 3 * night - 9);
        argument("setFrost, frost", lakes, (lake, frost) -> lake.setFrost(6, frost)).hold(-20, 20, frost -> 9);
        argument("setFrost twice, frost", lakes, BoundsArgumentsTest::setFrostTwice).hold(-20, 20, frost -> frost);
    }

    private static int setFrostTwice(EelPermits lake, int frost) {
        lake.setFrost(5, frost);
        return lake.setFrost(5, 0);
    }

    private static void cut() {
        Supplier<EelPermits> lakes = () -> Lakes.withHoles(0);
        index("cut, x", lakes, (lake, x) -> lake.cut(x, 4)).hold(0, 8, x -> 0);
        index("cut, y", lakes, (lake, y) -> lake.cut(4, y)).hold(0, 8, y -> 0);
    }

    private static void license() {
        Supplier<EelPermits> lakes = () -> Lakes.withSpearers(0);
        argument("license, permit", lakes, (lake, permit) -> lake.license(permit, 1)).hold(0, 30, permit -> 0);
        argument("license, light", lakes, (lake, light) -> lake.license(1, light)).hold(0, 4, light -> 0);
    }

    private static void goSpearers() {
        index("go of none", () -> Lakes.withSpearers(0), (lake, s) -> lake.go(s, 0)).holdNone(0);
        index("go of 1", () -> Lakes.withSpearers(1), (lake, s) -> lake.go(s, 0)).hold(0, 0, s -> -1);
        index("go of 8", Lakes::full, (lake, s) -> lake.go(s, 0)).hold(0, 7, s -> s);
        index("go of 8 to no hole", Lakes::full, (lake, s) -> lake.go(s, -1)).hold(0, 7, s -> s);
    }

    private static void goHoles() {
        for (int holes = 0; holes <= 12; holes += holes == 0 ? 1 : 11) {
            int cut = holes;
            index("go to one of " + cut + " holes, or -1", () -> someoneAmong(cut), (lake, h) -> lake.go(0, h))
                .hold(-1, cut - 1, h -> -1);
        }
        index("go from the last hole to another, or -1", Lakes::full, (lake, h) -> lake.go(7, h)).hold(-1, 11, h -> 7);
    }

    private static EelPermits someoneAmong(int holes) {
        EelPermits lake = Lakes.withHoles(holes);
        lake.license(1, 1);
        return lake;
    }

    private static void warden() {
        Supplier<EelPermits> lakes = () -> Lakes.withWardens(0);
        index("warden, x", lakes, (lake, x) -> lake.warden(x, 4, 1)).hold(0, 8, x -> 0);
        index("warden, y", lakes, (lake, y) -> lake.warden(4, y, 1)).hold(0, 8, y -> 0);
        argument("warden, pace", lakes, (lake, pace) -> lake.warden(4, 4, pace)).hold(1, 8, pace -> 0);
    }

    private static void cell() {
        Supplier<EelPermits> lakes = BoundsArgumentsTest::cellsApart;
        index("cell, x", lakes, (lake, x) -> lake.cell(x, 5, 0)).hold(0, 8, x -> eelsOf(x, 5));
        index("cell, y", lakes, (lake, y) -> lake.cell(5, y, 1)).hold(0, 8, y -> mudOf(5, y));
        // 41 eels are in mud 7 at (5, 4)
        index("cell, what", lakes, (lake, what) -> lake.cell(5, 4, what)).hold(0, 3, what -> what == 0 ? 41 : 14);
    }

    private static void holes() {
        index("hole of none", () -> Lakes.withHoles(0), (lake, h) -> lake.hole(h, 0)).holdNone(0);
        index("hole of 1", () -> Lakes.withHoles(1), (lake, h) -> lake.hole(h, 0)).hold(0, 0, h -> 0);
        index("hole of 12", Lakes::full, (lake, h) -> lake.hole(h, 0)).hold(0, 11, h -> h % 9);
        index("hole, what", Lakes::full, (lake, what) -> lake.hole(7, what)).hold(0, 4, what -> what == 0 ? 7 : 4);
    }

    private static void spearers() {
        index("spearer of none", () -> Lakes.withSpearers(0), (lake, s) -> lake.spearer(s, 2)).holdNone(0);
        index("spearer of 1", () -> Lakes.withSpearers(1), (lake, s) -> lake.spearer(s, 2)).hold(0, 0, s -> -1);
        index("spearer of 8", Lakes::full, (lake, s) -> lake.spearer(s, 2)).hold(0, 7, s -> s);
        index("spearer, what", Lakes::full, (lake, what) -> lake.spearer(6, what))
            .hold(0, 5, what -> what == 0 ? 2 : 0);
    }

    private static void wardens() {
        index("about one of none", () -> Lakes.withWardens(0), (lake, w) -> lake.about(w, 2)).holdNone(0);
        index("about one of 1", () -> Lakes.withWardens(1), (lake, w) -> lake.about(w, 2)).hold(0, 0, w -> 1);
        index("about one of 3", Lakes::full, (lake, w) -> lake.about(w, 2)).hold(0, 2, w -> w + 1);
        index("about, what", Lakes::full, (lake, what) -> lake.about(2, what)).hold(0, 3, what -> what == 0 ? 4 : 0);
    }

    private static void count() {
        index("count, what", Lakes::full, (lake, what) -> lake.count(what)).hold(0, 8, what -> 0);
    }

    private static void pass() {
        argument("pass, nights", Lakes::mild, (lake, nights) -> lake.pass(nights)).hold(1, 40, nights -> 0);
        argument("pass, nights gone", Lakes::mild, BoundsArgumentsTest::nightBehind).hold(1, 40, nights -> nights);
    }

    private static int nightBehind(EelPermits lake, int nights) {
        lake.pass(nights);
        return lake.count(0);
    }

    /** Of the numbers of count() 1, 3, 5, 7 and 8 are foreseen, so that each of the others has one beside it. */
    private static void foresee() {
        Supplier<EelPermits> lakes = EelPermits::new;
        argument("foresee, nights", lakes, (lake, nights) -> lake.foresee(nights, 1))
            .hold(1, 40, nights -> Math.min(90, 20 + 2 * nights));
        Bounds what = index("foresee, what", Lakes::full, (lake, number) -> lake.foresee(1, number));
        int[] due = {20, 36 - 16 + 12, 12, 16, 0};
        int[] foreseen = {1, 3, 5, 7, 8};
        for (int i = 0; i < foreseen.length; i++) {
            what.allows(foreseen[i], due[i]);
        }
        int[] others = {Integer.MIN_VALUE, -1, 0, 2, 4, 6, 9, Integer.MAX_VALUE};
        for (int other : others) {
            what.refuses(other);
        }
    }

    private static void advise() {
        index("advise for one of none", () -> Lakes.withSpearers(0), EelPermits::advise).holdNone(0);
        index("advise for one of 1", () -> Lakes.withSpearers(1), EelPermits::advise).hold(0, 0, s -> 0);
        // alone at a hole one takes the most, and the own hole is the first one at which this one is alone
        index("advise for one of 8", Lakes::full, EelPermits::advise).hold(0, 7, s -> s);
    }
}
