/** Promise 2: set. */
final class Promise02SetTest {
    public static void main(String[] args) {
        EelPermits lake = new EelPermits();
        Check.same("set(3, 7, 25, 6)", lake.set(3, 7, 25, 6), 2);
        Check.same("eels", lake.cell(3, 7, 0), 25);
        Check.same("mud", lake.cell(3, 7, 1), 6);
        Check.same("eels of the mirrored cell", lake.cell(7, 3, 0), 0);
        Check.same("set(3, 7, 0, 0)", lake.set(3, 7, 0, 0), 256);
        Check.same("set(3, 7, 1, 9)", lake.set(3, 7, 1, 9), 0);
        Check.same("set(3, 7, 60, 9)", lake.set(3, 7, 60, 9), 19);
        Check.same("set(3, 7, 60, 0)", lake.set(3, 7, 60, 0), 609);
        for (int edge = 0; edge <= 8; edge += 8) {
            Check.same("an edge in x", lake.set(edge, 4, 60, 9), 2);
            Check.same("an edge in y", lake.set(4, edge, 60, 9), 2);
        }
        Check.same("a cell with a hole", lake.cut(5, 5), 0);
        Check.same("set(5, 5, 7, 1)", lake.set(5, 5, 7, 1), 2);

        Check.badIndex(lake, "set(-1, 0, 0, 0)", () -> lake.set(-1, 0, 0, 0));
        Check.badIndex(lake, "set(9, 0, 0, 0)", () -> lake.set(9, 0, 0, 0));
        Check.badIndex(lake, "set(0, -1, 0, 0)", () -> lake.set(0, -1, 0, 0));
        Check.badIndex(lake, "set(0, 9, 0, 0)", () -> lake.set(0, 9, 0, 0));
        Check.badIndex(lake, "set(MIN, MAX, 0, 0)", () -> lake.set(Integer.MIN_VALUE, Integer.MAX_VALUE, 0, 0));
        Check.badIndex(lake, "the index first", () -> lake.set(9, 0, 61, 10));
        Check.badArgument(lake, "set(0, 0, -1, 0)", () -> lake.set(0, 0, -1, 0));
        Check.badArgument(lake, "set(0, 0, 61, 0)", () -> lake.set(0, 0, 61, 0));
        Check.badArgument(lake, "set(0, 0, 5, -1)", () -> lake.set(0, 0, 5, -1));
        Check.badArgument(lake, "set(0, 0, 5, 10)", () -> lake.set(0, 0, 5, 10));
        Check.badArgument(lake, "set(0, 0, MAX, MIN)", () -> lake.set(0, 0, Integer.MAX_VALUE, Integer.MIN_VALUE));
        Check.end();
    }
}
