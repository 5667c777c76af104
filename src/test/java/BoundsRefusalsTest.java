/**
 * "If several exceptions apply, the one that is named first is thrown", for each two that may apply at once, and "A
 * method that throws an exception changes nothing": what comes behind is as if it had not been called.
 */
final class BoundsRefusalsTest {
    public static void main(String[] args) {
        setOrder();
        setFrostOrder();
        cutOrder();
        licenseOrder();
        goOrder();
        wardenOrder();
        foreseeOrder();
        nothingIsChanged();
        Check.end();
    }

    private static void setOrder() {
        Check.test("set: no cell, and no eels", () -> {
            EelPermits lake = Lakes.full();
            Check.badIndex(lake, "set(9, 0, 61, 0)", () -> lake.set(9, 0, 61, 0));
            Check.badIndex(lake, "set(0, -1, -1, 0)", () -> lake.set(0, -1, -1, 0));
        });
        Check.test("set: no cell, and no mud", () -> {
            EelPermits lake = Lakes.full();
            Check.badIndex(lake, "set(-1, 0, 0, 10)", () -> lake.set(-1, 0, 0, 10));
            Check.badIndex(lake, "set(0, 9, 0, -1)", () -> lake.set(0, 9, 0, -1));
        });
        Check.test("set: good eels with no mud, and no eels with good mud", () -> {
            EelPermits lake = Lakes.full();
            Check.badArgument(lake, "set(8, 8, 60, 10)", () -> lake.set(8, 8, 60, 10));
            Check.badArgument(lake, "set(8, 8, 61, 9)", () -> lake.set(8, 8, 61, 9));
        });
    }

    private static void setFrostOrder() {
        Check.test("setFrost: no night, and no frost", () -> {
            EelPermits lake = new EelPermits();
            Check.badIndex(lake, "setFrost(7, 21)", () -> lake.setFrost(7, 21));
            Check.badIndex(lake, "setFrost(-1, -21)", () -> lake.setFrost(-1, -21));
        });
    }

    private static void cutOrder() {
        Check.test("cut: no cell, and ice that does not bear", () -> {
            EelPermits lake = Lakes.withIce(4);
            Check.badIndex(lake, "cut(9, 0)", () -> lake.cut(9, 0));
            Check.badIndex(lake, "cut(0, -1)", () -> lake.cut(0, -1));
        });
        Check.test("cut: no cell, and 12 holes", () -> {
            EelPermits lake = Lakes.full();
            Check.badIndex(lake, "cut(-1, 0)", () -> lake.cut(-1, 0));
            Check.badIndex(lake, "cut(0, 9)", () -> lake.cut(0, 9));
        });
        Check.test("cut: an open hole there, and 12 holes", () -> {
            EelPermits lake = Lakes.full();
            Check.badState(lake, "cut(2, 8)", () -> lake.cut(2, 8));
        });
        Check.test("cut: ice that does not bear, and 12 holes", () -> {
            EelPermits lake = Lakes.full();
            lake.setFrost(0, -16);
            lake.pass(1);
            Check.badState(lake, "cut(2, 8)", () -> lake.cut(2, 8));
        });
    }

    private static void licenseOrder() {
        Check.test("license: no permit, and 8 spearers", () -> {
            EelPermits lake = Lakes.full();
            Check.badArgument(lake, "license(31, 0)", () -> lake.license(31, 0));
            Check.badArgument(lake, "license(-1, 4)", () -> lake.license(-1, 4));
        });
        Check.test("license: no light, and 8 spearers", () -> {
            EelPermits lake = Lakes.full();
            Check.badArgument(lake, "license(30, 5)", () -> lake.license(30, 5));
            Check.badArgument(lake, "license(0, -1)", () -> lake.license(0, -1));
        });
    }

    private static void goOrder() {
        Check.test("go: no spearer, and a closed hole", () -> {
            EelPermits lake = oneOpenOneClosed();
            Check.badIndex(lake, "go(1, 1)", () -> lake.go(1, 1));
            Check.badIndex(lake, "go(-1, 1)", () -> lake.go(-1, 1));
        });
        Check.test("go: no spearer, though the hole is open, or none", () -> {
            EelPermits lake = oneOpenOneClosed();
            Check.badIndex(lake, "go(1, 0)", () -> lake.go(1, 0));
            Check.badIndex(lake, "go(1, -1)", () -> lake.go(1, -1));
        });
        Check.test("go: a hole beside a closed one", () -> {
            EelPermits lake = oneOpenOneClosed();
            Check.badState(lake, "go(0, 1)", () -> lake.go(0, 1));
            Check.badIndex(lake, "go(0, 2)", () -> lake.go(0, 2));
        });
    }

    /** The spearer 0 is at the open hole 0; the hole 1 is closed. */
    private static EelPermits oneOpenOneClosed() {
        EelPermits lake = new EelPermits();
        Lakes.spearerAt(lake, 5, 0, 3, 3);
        lake.cut(6, 6);
        lake.pass(1);
        return lake;
    }

    private static void wardenOrder() {
        Check.test("warden: no cell, and no pace", () -> {
            EelPermits lake = new EelPermits();
            Check.badIndex(lake, "warden(9, 0, 9)", () -> lake.warden(9, 0, 9));
            Check.badIndex(lake, "warden(0, -1, 0)", () -> lake.warden(0, -1, 0));
        });
        Check.test("warden: no cell, and 3 wardens", () -> {
            EelPermits lake = Lakes.full();
            Check.badIndex(lake, "warden(-1, 0, 1)", () -> lake.warden(-1, 0, 1));
            Check.badIndex(lake, "warden(0, 9, 8)", () -> lake.warden(0, 9, 8));
        });
        Check.test("warden: no pace, and 3 wardens", () -> {
            EelPermits lake = Lakes.full();
            Check.badArgument(lake, "warden(0, 0, 9)", () -> lake.warden(0, 0, 9));
            Check.badArgument(lake, "warden(8, 8, 0)", () -> lake.warden(8, 8, 0));
        });
        Check.test("warden: no cell, no pace, and 3 wardens", () -> {
            EelPermits lake = Lakes.full();
            Check.badIndex(lake, "warden(9, 9, 9)", () -> lake.warden(9, 9, 9));
        });
    }

    private static void foreseeOrder() {
        Check.test("foresee: no nights, and nothing that is foreseen", () -> {
            EelPermits lake = Lakes.full();
            Check.badArgument(lake, "foresee(0, 0)", () -> lake.foresee(0, 0));
            Check.badArgument(lake, "foresee(41, 9)", () -> lake.foresee(41, 9));
            Check.badArgument(lake, "foresee(41, -1)", () -> lake.foresee(41, -1));
        });
    }

    private static void nothingIsChanged() {
        Check.test("a refused cut takes no number", () -> {
            EelPermits lake = Lakes.withHoles(2);
            Check.badState(lake, "cut(1, 0)", () -> lake.cut(1, 0));
            Check.badIndex(lake, "cut(9, 9)", () -> lake.cut(9, 9));
            Check.same("cut(2, 0)", lake.cut(2, 0), 2);
        });
        Check.test("a refused license takes no number", () -> {
            EelPermits lake = Lakes.withSpearers(2);
            Check.badArgument(lake, "license(31, 0)", () -> lake.license(31, 0));
            Check.same("license(3, 1)", lake.license(3, 1), 2);
            Check.same("the new one's permit", lake.spearer(2, 0), 3);
        });
        Check.test("a refused warden takes no number", () -> {
            EelPermits lake = Lakes.withWardens(1);
            Check.badArgument(lake, "warden(1, 1, 9)", () -> lake.warden(1, 1, 9));
            Check.same("warden(2, 2, 8)", lake.warden(2, 2, 8), 1);
            Check.same("the new one's x", lake.about(1, 0), 2);
        });
        Check.test("a refused go leaves the spearer at the hole", () -> {
            EelPermits lake = oneOpenOneClosed();
            Check.badState(lake, "go(0, 1)", () -> lake.go(0, 1));
            Check.same("go(0, -1)", lake.go(0, -1), 0);
        });
        Check.test("a refused set leaves eels and mud", () -> {
            EelPermits lake = new EelPermits();
            lake.set(8, 8, 60, 9);
            Check.badArgument(lake, "set(8, 8, 5, 10)", () -> lake.set(8, 8, 5, 10));
            Check.badArgument(lake, "set(8, 8, 61, 5)", () -> lake.set(8, 8, 61, 5));
            Check.same("set(8, 8, 0, 0)", lake.set(8, 8, 0, 0), 609);
        });
        Check.test("a refused setFrost leaves the frost", () -> {
            EelPermits lake = new EelPermits();
            lake.setFrost(6, -20);
            Check.badArgument(lake, "setFrost(6, -21)", () -> lake.setFrost(6, -21));
            Check.same("setFrost(6, 20)", lake.setFrost(6, 20), -20);
        });
        Check.test("a refused pass lets no night go by", () -> {
            EelPermits lake = Lakes.full();
            Check.badArgument(lake, "pass(41)", () -> lake.pass(41));
            Check.badArgument(lake, "pass(0)", () -> lake.pass(0));
            Check.same("night", lake.count(0), 0);
            Check.same("eels", lake.count(3), 36);
        });
    }
}
