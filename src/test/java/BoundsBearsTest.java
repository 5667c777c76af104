/**
 * Promise 14: 0 now, 1 behind the next night, 200 at most, -1 behind 200; the table that begins anew and the ice that
 * is held meanwhile.
 */
final class BoundsBearsTest {
    public static void main(String[] args) {
        now();
        soon();
        late();
        heldMeanwhile();
        Check.end();
    }

    private static void bears(String name, EelPermits lake, int due) {
        Check.test(name, () -> {
            long before = lake.digest();
            Check.same("bears()", lake.bears(), due);
            Check.same("nothing is changed", lake.digest(), before);
        });
    }

    private static EelPermits withFrosts(int ice, int... frosts) {
        EelPermits lake = Lakes.withIce(ice);
        for (int i = 0; i < frosts.length; i++) {
            lake.setFrost((lake.count(0) + i) % 7, frosts[i]);
        }
        return lake;
    }

    private static void now() {
        bears("0 if it does not now: ice of 0", withFrosts(0), 0);
        bears("0 if it does not now: ice of 4", withFrosts(4), 0);
        bears("0 if it does not now, though it will", withFrosts(4, 20), 0);
        bears("ice of 5 bears now, and for ever", withFrosts(5), -1);
        bears("ice of 90 bears now, and for ever", withFrosts(90), -1);
        bears("a new lake", new EelPermits(), -1);
    }

    private static void soon() {
        bears("1: ice of 5 that loses 1 in the next night", withFrosts(5, -1), 1);
        bears("1: ice of 20 that loses 16", withFrosts(20, -16), 1);
        bears("not 1: ice of 20 that loses 15, and 1 then", withFrosts(20, -15, -1), 2);
        bears("the first time, though it bears again then", withFrosts(5, -1, 20), 1);
        bears("7: the last night of the table from now on", withFrosts(5, 0, 0, 0, 0, 0, 0, -1), 7);
        bears("8: the table begins anew", withFrosts(6, -1, 0, 0, 0, 0, 0, 0), 8);
        for (int passed = 0; passed < 9; passed++) {
            EelPermits lake = Lakes.mild();
            if (passed > 0) {
                lake.pass(passed);
            }
            lake.setFrost(6, -16);
            bears("from the night " + passed + " to the one of 6", lake, 7 - passed % 7);
        }
    }

    private static void late() {
        bears("199", Lakes.losingOneAWeek(3), 199);
        bears("at most 200", Lakes.losingOneAWeek(4), 200);
        bears("-1 if it does till then: 201 nights", Lakes.losingOneAWeek(5), -1);
        bears("-1 if it does till then: 202 nights", Lakes.losingOneAWeek(6), -1);
        Check.test("200 as the nights go by", () -> {
            EelPermits lake = Lakes.losingOneAWeek(4);
            for (int i = 0; i < 4; i++) {
                lake.pass(40);
            }
            lake.pass(39);
            Check.same("it bears behind 199", lake.count(2), 1);
            Check.same("bears()", lake.bears(), 1);
            lake.pass(1);
            Check.same("it does not behind 200", lake.count(2), 0);
            Check.same("bears()", lake.bears(), 0);
        });
        Check.test("200 when 201 have become 200", () -> {
            EelPermits lake = Lakes.losingOneAWeek(5);
            lake.pass(1);
            Check.same("bears()", lake.bears(), 200);
        });
    }

    private static void heldMeanwhile() {
        // 90 behind the first two nights, and not 130; then 70, 50, 30, 10, 0
        bears("ice that is held at 90", withFrosts(90, 20, 20, -20, -20, -20, -20, -20), 7);
        // 90 and then 4, where 91 would leave 5
        bears("ice that is held at 90, by 1", withFrosts(88, 3, -20, -20, -20, -20, -6, 0), 6);
        // 90 and then 5, and in the next week 8, and 0
        bears("ice of just 90", withFrosts(88, 2, -20, -20, -20, -20, -5, 0), 9);
    }
}
