/** Promise 8: cell. */
final class Promise08CellTest {
    public static void main(String[] args) {
        EelPermits lake = new EelPermits();
        lake.set(2, 6, 31, 4);
        Check.same("eels", lake.cell(2, 6, 0), 31);
        Check.same("mud", lake.cell(2, 6, 1), 4);
        Check.same("no hole", lake.cell(2, 6, 2), -1);
        Check.same("catch", lake.cell(2, 6, 3), 12);
        lake.cut(6, 2);
        lake.cut(2, 6);
        Check.same("hole", lake.cell(2, 6, 2), 1);
        Check.same("hole of the mirrored cell", lake.cell(6, 2, 2), 0);
        lake.pass(1);
        Check.same("a closed one is not told", lake.cell(2, 6, 2), -1);
        catches(lake);

        Check.badIndex(lake, "cell(-1, 0, 0)", () -> lake.cell(-1, 0, 0));
        Check.badIndex(lake, "cell(9, 0, 0)", () -> lake.cell(9, 0, 0));
        Check.badIndex(lake, "cell(0, -1, 0)", () -> lake.cell(0, -1, 0));
        Check.badIndex(lake, "cell(0, 9, 0)", () -> lake.cell(0, 9, 0));
        Check.badIndex(lake, "cell(0, 0, -1)", () -> lake.cell(0, 0, -1));
        Check.badIndex(lake, "cell(0, 0, 4)", () -> lake.cell(0, 0, 4));
        Check.end();
    }

    private static void catches(EelPermits lake) {
        int[][] eelsMudCatch = {
            {0, 0, 0}, {1, 0, 1}, {2, 0, 2}, {3, 0, 2}, {4, 0, 3}, {1, 1, 0}, {2, 1, 1}, {5, 3, 0}, {6, 3, 1},
            {15, 9, 0}, {16, 9, 0}, {18, 9, 1}, {60, 0, 31}, {60, 9, 22}, {59, 0, 30}};
        for (int[] row : eelsMudCatch) {
            lake.set(5, 5, row[0], row[1]);
            Check.same("catch of " + row[0] + " in mud " + row[1], lake.cell(5, 5, 3), row[2]);
        }
    }
}
