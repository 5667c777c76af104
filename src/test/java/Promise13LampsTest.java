/** Promise 13 and step 1 of a night: eels come to the lamps. */
final class Promise13LampsTest {
    public static void main(String[] args) {
        inOrderAsFarAsThereIsRoom();
        asFarAsThereAreSome();
        asFarAsTheLightGoes();
        inAllDirections();
        spearersByNumbers();
        twoLampsAtOneHole();
        Check.end();
    }

    /** Eels of 41 and more do not breed, so that they are told as lamps and spears left them. */
    private static void inOrderAsFarAsThereIsRoom() {
        EelPermits lake = Lakes.mild();
        lake.set(4, 4, 55, 9);
        lake.set(5, 3, 50, 0);
        lake.set(3, 4, 50, 0);
        lake.set(5, 4, 50, 0);
        lake.set(3, 5, 50, 0);
        Lakes.spearerAt(lake, 30, 1, 4, 4);
        Check.same("pass(1)", lake.pass(1), 22);
        Check.same("(5, 3) gave 2", lake.cell(5, 3, 0), 48);
        Check.same("(3, 4) gave 2", lake.cell(3, 4, 0), 48);
        Check.same("(5, 4) gave 1", lake.cell(5, 4, 0), 49);
        Check.same("(3, 5) gave none", lake.cell(3, 5, 0), 50);
        Check.same("(4, 4) had 60", lake.cell(4, 4, 0), 38 + 4);
    }

    private static void asFarAsThereAreSome() {
        EelPermits lake = Lakes.mild();
        lake.set(4, 4, 41, 9);
        lake.set(3, 3, 1, 0);
        lake.set(4, 3, 2, 0);
        lake.set(5, 5, 3, 0);
        Lakes.spearerAt(lake, 30, 1, 4, 4);
        // 46 are there then
        Check.same("pass(1)", lake.pass(1), 15);
        Check.same("(4, 4)", lake.cell(4, 4, 0), 31 + 4);
        Check.same("(3, 3)", lake.cell(3, 3, 0), 0);
        Check.same("(4, 3)", lake.cell(4, 3, 0), 0);
        Check.same("(5, 5)", lake.cell(5, 5, 0), 1 + 1);
    }

    private static void asFarAsTheLightGoes() {
        for (int light = 0; light <= 4; light++) {
            EelPermits lake = Lakes.mild();
            for (int far = 1; far <= 5; far++) {
                lake.set(far, 0, 50, 0);
                lake.set(far / 2, far, 50, 0);
            }
            lake.set(0, 0, 0, 9);
            Lakes.spearerAt(lake, 30, light, 0, 0);
            lake.pass(1);
            for (int far = 1; far <= 5; far++) {
                int due = far <= light ? 48 : 50;
                Check.same("light " + light + ", along x " + far, lake.cell(far, 0, 0), due);
                Check.same("light " + light + ", along y " + far, lake.cell(far / 2, far, 0), due);
            }
        }
        EelPermits corner = Lakes.mild();
        corner.set(4, 4, 50, 0);
        corner.set(3, 8, 50, 0);
        Lakes.spearerAt(corner, 30, 4, 8, 8);
        corner.pass(1);
        Check.same("at the light's corner", corner.cell(4, 4, 0), 48);
        Check.same("behind the light", corner.cell(3, 8, 0), 50);
    }

    /** All cells round the hole are told, those outside the light and over the lake's edges too. */
    private static void inAllDirections() {
        int[][] holes = {{2, 6}, {6, 2}, {7, 1}, {1, 7}, {8, 4}, {4, 8}};
        for (int[] hole : holes) {
            for (int light = 1; light <= 4; light++) {
                EelPermits lake = Lakes.mild();
                Lakes.setAllCells(lake, 60, 0);
                lake.set(hole[0], hole[1], 0, 9);
                Lakes.spearerAt(lake, 30, light, hole[0], hole[1]);
                lake.pass(1);
                for (int c = 0; c < 81; c++) {
                    checkLitCell(lake, c, hole, light);
                }
            }
        }
    }

    /** 60 come from the first 30 cells at most. */
    private static void checkLitCell(EelPermits lake, int cell, int[] hole, int light) {
        int litBefore = 0;
        for (int c = 0; c < cell; c++) {
            litBefore += isLit(c, hole, light) ? 1 : 0;
        }
        int due = isLit(cell, hole, light) && litBefore < 30 ? 58 : 60;
        if (cell != hole[1] * 9 + hole[0]) {
            Check.same("light " + light + " at " + hole[0] + ", " + hole[1] + ", cell " + cell,
                lake.cell(cell % 9, cell / 9, 0), due);
        }
    }

    private static boolean isLit(int cell, int[] hole, int light) {
        int farX = Math.abs(cell % 9 - hole[0]);
        int farY = Math.abs(cell / 9 - hole[1]);
        return farX <= light && farY <= light && farX + farY > 0;
    }

    private static void spearersByNumbers() {
        EelPermits lake = Lakes.mild();
        lake.set(4, 4, 0, 0);
        lake.set(5, 4, 1, 0);
        Lakes.spearerAt(lake, 30, 1, 4, 4);
        Lakes.spearerAt(lake, 30, 1, 5, 4);
        Check.same("pass(1)", lake.pass(1), 1);
        Check.same("the first one", lake.spearer(0, 3), 0);
        Check.same("the last one had it", lake.spearer(1, 3), 1);
    }

    private static void twoLampsAtOneHole() {
        EelPermits lake = Lakes.mild();
        lake.set(6, 6, 50, 0);
        lake.cut(5, 5);
        for (int s = 0; s < 2; s++) {
            lake.license(30, 1 + s);
            lake.go(s, 0);
        }
        lake.license(30, 4);
        lake.pass(1);
        Check.same("2 to each of the two, none to the one at no hole", lake.cell(6, 6, 0), 46);
    }
}
