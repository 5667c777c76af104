/** Promise 17: mean. */
final class Promise17MeanTest {
    public static void main(String[] args) {
        EelPermits lake = Lakes.mild();
        Check.same("no spearers", lake.mean(), 0.0);
        lake.license(30, 0);
        Check.same("no night yet", lake.mean(), 0.0);
        lake.set(1, 1, 20, 0);
        lake.go(0, lake.cut(1, 1));
        lake.pass(1);
        Check.same("one", lake.mean(), 11.0);
        lake.license(30, 0);
        Check.same("a new one counts", lake.mean(), 5.5);
        lake.license(4, 0);
        Check.same("a third", lake.mean(), 11.0 / 3.0);
        lake.go(0, -1);
        Check.same("though it is gone from the hole", lake.mean(), 11.0 / 3.0);
        lake.set(1, 1, 20, 0);
        lake.go(1, 0);
        lake.go(2, 0);
        lake.warden(1, 1, 1);
        lake.pass(1);
        Check.same("behind a fine what is left", lake.mean(), 15.0 / 3.0);
        lake.set(1, 1, 0, 0);
        lake.pass(1);
        Check.same("of the latest night alone", lake.mean(), 0.0);
        Check.end();
    }
}
