import java.math.BigInteger;
import java.util.ArrayList;
import java.util.List;
import java.util.function.Supplier;

/**
 * Promises 17 and 18, and the 512 calls: a mean of none, of one and of all eight that is not cut, a checksum that wraps
 * around, and the last call of an object.
 */
final class BoundsSumsTest {
    /** How many calls Lakes.full() takes: frosts, holes, spearers, eels, ways, wardens. */
    private static final int CALLS_OF_FULL = 7 + 12 + 8 + 12 + 8 + 3;

    public static void main(String[] args) {
        mean();
        digest();
        theLastCall();
        Check.end();
    }

    private static void mean() {
        Check.test("0 if there are none", () -> Check.same("mean()", new EelPermits().mean(), 0.0));
        Check.test("0 if there are none, behind nights", () -> {
            EelPermits lake = Lakes.withHoles(12);
            lake.pass(40);
            Check.same("mean()", lake.mean(), 0.0);
        });
        Check.test("one, without a catch", () -> Check.same("mean()", Lakes.withSpearers(1).mean(), 0.0));
        Check.test("one, with the greatest catch", () -> Check.same("mean()", catches(1, 60), 31.0));
        Check.test("eight, without a catch", () -> Check.same("mean()", Lakes.withSpearers(8).mean(), 0.0));
        Check.test("eight, of whom one has 1: not cut", () -> Check.same("mean()", catches(8, 1), 0.125));
        Check.test("eight, of whom one has 31: not cut", () -> Check.same("mean()", catches(8, 60), 3.875));
        Check.test("three: 1 by 3 as a double", () -> Check.same("mean()", catches(3, 1), 1.0 / 3.0));
        Check.test("eight with one each", () -> {
            EelPermits lake = Lakes.full();
            for (int h = 0; h < 8; h++) {
                lake.set(h, 0, 1, 0);
            }
            lake.pass(1);
            Check.same("mean()", lake.mean(), 1.0);
        });
        Check.test("behind a fine what is left of it", () -> {
            EelPermits lake = Lakes.mild();
            lake.set(0, 0, 60, 0);
            Lakes.spearerAt(lake, 0, 0, 0, 0);
            lake.warden(0, 0, 1);
            lake.pass(1);
            Check.same("mean()", lake.mean(), 0.0);
        });
        Check.test("of the latest night alone", () -> {
            EelPermits lake = Lakes.mild();
            lake.set(0, 0, 1, 0);
            Lakes.spearerAt(lake, 30, 0, 0, 0);
            lake.pass(1);
            Check.same("mean() behind 1 night", lake.mean(), 1.0);
            lake.pass(1);
            Check.same("mean() behind 2 nights", lake.mean(), 0.0);
        });
    }

    /** The mean of so many, of whom the last one alone is at a hole, with so many eels in no mud. */
    private static double catches(int spearers, int eels) {
        EelPermits lake = Lakes.withSpearers(spearers);
        lake.set(2, 8, eels, 0);
        lake.go(spearers - 1, 11);
        lake.pass(1);
        return lake.mean();
    }

    private static void digest() {
        Check.test("a new lake: no hole, no spearer, no warden", () -> {
            int[] noFrost = {2, 2, 2, 2, 2, 2, 2};
            checkDigest(EelPermits::new, noFrost, 0);
        });
        Check.test("holes and spearers, no warden", () -> checkDigest(() -> Lakes.withSpearers(8), new int[7], 0));
        Check.test("a warden, no hole, no spearer", () -> checkDigest(() -> Lakes.withWardens(1), new int[7], 1));
        Check.test("a full lake", () -> checkDigest(Lakes::full, new int[7], 3));
        Check.test("the greatest eels and mud", () -> checkDigest(BoundsSumsTest::greatest, new int[7], 3));
        Check.test("frosts at both ends", () -> {
            int[] frost = {-20, 20, -20, 20, -1, 0, -20};
            checkDigest(() -> withFrosts(new EelPermits(), frost), frost, 0);
        });
        Check.test("closed holes", () -> {
            int[] frost = {-20, 0, 0, 0, 0, 0, 0};
            checkDigest(() -> nightLater(withFrosts(Lakes.full(), frost)), frost, 3);
        });
    }

    private static EelPermits greatest() {
        EelPermits lake = Lakes.full();
        Lakes.setAllCells(lake, 60, 9);
        return lake;
    }

    private static EelPermits withFrosts(EelPermits lake, int[] frost) {
        for (int night = 0; night < 7; night++) {
            lake.setFrost(night, frost[night]);
        }
        return lake;
    }

    private static EelPermits nightLater(EelPermits lake) {
        lake.pass(1);
        return lake;
    }

    /** The sum as it is without wrapping, of which the last 64 bits are taken. */
    private static void checkDigest(Supplier<EelPermits> lakes, int[] frost, int wardens) {
        List<Integer> all = new ArrayList<>();
        EelPermits lake = lakes.get();
        for (int what = 0; what < 9; what++) {
            all.add(lake.count(what));
        }
        addCells(all, lakes.get());
        for (int f : frost) {
            all.add(f);
        }
        addHolesAndPeople(all, lake, wardens);
        BigInteger d = BigInteger.valueOf(1187);
        for (int x : all) {
            d = d.multiply(BigInteger.valueOf(31)).add(BigInteger.valueOf(x));
        }
        Check.same("more than 64 bits", d.bitLength() > 64 ? 1 : 0, 1);
        Check.same("digest()", lake.digest(), d.longValue());
    }

    private static void addCells(List<Integer> all, EelPermits lake) {
        for (int c = 0; c < 81; c++) {
            for (int what = 0; what < 4; what++) {
                all.add(lake.cell(c % 9, c / 9, what));
            }
        }
    }

    private static void addHolesAndPeople(List<Integer> all, EelPermits lake, int wardens) {
        for (int h = 0; h < lake.count(4); h++) {
            for (int what = 0; what < 5; what++) {
                all.add(lake.hole(h, what));
            }
        }
        for (int s = 0; s < lake.count(6); s++) {
            for (int what = 0; what < 6; what++) {
                all.add(lake.spearer(s, what));
            }
        }
        for (int w = 0; w < wardens; w++) {
            for (int what = 0; what < 4; what++) {
                all.add(lake.about(w, what));
            }
        }
    }

    private static void theLastCall() {
        Check.test("the 512th call is answered as the first: many nights", () -> {
            EelPermits lake = new EelPermits();
            for (int call = 1; call < 512; call++) {
                lake.pass(40);
            }
            Check.same("count(0)", lake.count(0), 511 * 40);
        });
        Check.test("the 511th call is refused as the first, and the 512th tells that nothing is changed", () -> {
            EelPermits lake = Lakes.full();
            for (int call = CALLS_OF_FULL + 1; call < 510; call++) {
                lake.pass(40);
            }
            Check.badState(lake, "license(0, 0)", () -> lake.license(0, 0));
        });
        Check.test("the 512th call tells of all that the others did", () -> {
            EelPermits lake = Lakes.full();
            Twin twin = fullTwin();
            for (int call = CALLS_OF_FULL + 1; call < 512; call++) {
                int hole = call / 2 % 12;
                boolean fills = call % 2 == 0;
                int answer = fills ? lake.set(hole % 9, hole / 9 * 8, 60, 0) : lake.pass(40);
                String due = fills ? twin.set(hole % 9, hole / 9 * 8, 60, 0) : twin.pass(40);
                Check.same("call " + call, answer, Integer.parseInt(due));
            }
            Check.same("digest()", lake.digest(), Long.parseLong(twin.digest()));
        });
    }

    /** As Lakes.full() has it. */
    private static Twin fullTwin() {
        Twin twin = new Twin();
        for (int night = 0; night < 7; night++) {
            twin.setFrost(night, 0);
        }
        for (int h = 0; h < 12; h++) {
            twin.cut(h % 9, h / 9 * 8);
            twin.set(h % 9, h / 9 * 8, 3, 0);
        }
        for (int s = 0; s < 8; s++) {
            twin.license(2, 0);
            twin.go(s, s);
        }
        for (int w = 0; w < 3; w++) {
            twin.warden(4, 4, 1 + w);
        }
        return twin;
    }
}
