/** The example of README.md, call by call: it answers what README.md says. */
final class ReadmeExampleTest {
    public static void main(String[] args) {
        EelPermits lake = new EelPermits();
        Check.same("set", lake.set(4, 4, 30, 3), 2);
        int hole = lake.cut(4, 4);
        Check.same("cut", hole, 0);
        int spearer = lake.license(6, 1);
        Check.same("license", spearer, 0);
        Check.same("go", lake.go(spearer, hole), -1);
        int warden = lake.warden(4, 0, 2);
        Check.same("warden", warden, 0);
        Check.same("cell", lake.cell(4, 4, 3), 13);
        Check.same("foresee", lake.foresee(2, 8), 1);
        Check.same("pass", lake.pass(1), 13);
        Check.same("about", lake.about(warden, 1), 2);
        Check.same("pass again", lake.pass(1), 6);
        Check.same("fines", lake.spearer(spearer, 5), 1);
        Check.same("eels in all", lake.spearer(spearer, 4), 19);
        Check.same("eels of the cell", lake.cell(4, 4, 0), 15);
        Check.same("ice", lake.count(1), 24);
        Check.same("mean", lake.mean(), 6.0);
        Check.badState(lake, "cut", () -> lake.cut(4, 4));
        Check.badIndex(lake, "hole", () -> lake.hole(1, 0));
        Check.end();
    }
}
