/**
 * Spearers of eels under the ice of a lake, and the wardens of their permits.
 */
public final class EelPermits {
    private static final int NONE = -1;
    private static final int SIDE = 9;
    private static final int CELLS = 81;
    private static final int WEEK = 7;

    private static final int MOST_EELS = 60;
    private static final int MOST_MUD = 9;
    private static final int MOST_FROST = 20;
    private static final int MOST_ICE = 90;
    private static final int BEARING_ICE = 5;
    private static final int MOST_HOLES = 12;
    private static final int MOST_SPEARERS = 8;
    private static final int MOST_WARDENS = 3;
    private static final int MOST_PERMIT = 30;
    private static final int MOST_LIGHT = 4;
    private static final int MOST_PACE = 8;

    private static final int FIRST_MUD = 2;
    private static final int FIRST_FROST = 2;
    private static final int FIRST_ICE = 20;

    private static final int LURED_EELS = 2;
    private static final int MOST_BREEDING_EELS = 40;

    private static final int MOST_NIGHTS = 40;
    private static final int BEARING_NIGHTS = 200;
    private static final int ADVISED_NIGHTS = 5;

    private static final int CELL_FACTS = 4;
    private static final int HOLE_FACTS = 5;
    private static final int SPEARER_FACTS = 6;
    private static final int WARDEN_FACTS = 4;
    private static final int LAKE_FACTS = 9;

    private static final long DIGEST_START = 1187L;
    private static final long DIGEST_FACTOR = 31L;

    private final Lake lake;

    /** Nights that are only thought of go by here; it is made once so that no call makes a lake. */
    private final Lake draft;

    /** Creates a lake without eels, holes and people, in the night 0. */
    public EelPermits() {
        lake = new Lake();
        draft = new Lake();
    }

    // ---- lake and holes

    /** Sets a cell's eels and mud; answers 10 * eels + mud of before. */
    public int set(int x, int y, int eels, int mud) throws IndexOutOfBoundsException, IllegalArgumentException {
        if (!isCell(x, y)) {
            throw new IndexOutOfBoundsException("no such cell");
        }
        if (!isWithin(eels, 0, MOST_EELS) || !isWithin(mud, 0, MOST_MUD)) {
            throw new IllegalArgumentException("eels are 0 to 60, mud is 0 to 9");
        }
        int cell = cellAt(x, y);
        int before = 10 * lake.eels[cell] + lake.mud[cell];
        lake.eels[cell] = eels;
        lake.mud[cell] = mud;
        return before;
    }

    /** Sets the frost of a night of the table; answers the frost before. */
    public int setFrost(int night, int frost) throws IndexOutOfBoundsException, IllegalArgumentException {
        if (!isWithin(night, 0, WEEK - 1)) {
            throw new IndexOutOfBoundsException("no such night in the table");
        }
        if (!isWithin(frost, -MOST_FROST, MOST_FROST)) {
            throw new IllegalArgumentException("frost is -20 to 20");
        }
        int before = lake.frost[night];
        lake.frost[night] = frost;
        return before;
    }

    /** Cuts a hole; answers its number. */
    public int cut(int x, int y) throws IndexOutOfBoundsException, IllegalStateException {
        if (!isCell(x, y)) {
            throw new IndexOutOfBoundsException("no such cell");
        }
        if (!iceBears(lake.ice)) {
            throw new IllegalStateException("the ice does not bear");
        }
        if (lake.openHoleIn(x, y) != NONE) {
            throw new IllegalStateException("an open hole is there");
        }
        if (lake.holeCount >= MOST_HOLES) {
            throw new IllegalStateException("there are 12 holes");
        }
        return lake.addHole(x, y);
    }

    // ---- people

    /** Adds a spearer; answers the number. */
    public int license(int permit, int light) throws IllegalArgumentException, IllegalStateException {
        if (!isWithin(permit, 0, MOST_PERMIT) || !isWithin(light, 0, MOST_LIGHT)) {
            throw new IllegalArgumentException("a permit is 0 to 30, light is 0 to 4");
        }
        if (lake.spearerCount >= MOST_SPEARERS) {
            throw new IllegalStateException("there are 8 spearers");
        }
        return lake.addSpearer(permit, light);
    }

    /** A spearer goes to a hole, or to none; answers the hole before. */
    public int go(int spearer, int hole) throws IndexOutOfBoundsException, IllegalStateException {
        if (!lake.hasSpearer(spearer)) {
            throw new IndexOutOfBoundsException("no such spearer");
        }
        if (hole != NONE && !lake.hasHole(hole)) {
            throw new IndexOutOfBoundsException("no such hole");
        }
        if (hole != NONE && !lake.holes[hole].open) {
            throw new IllegalStateException("the hole is closed");
        }
        Spearer goer = lake.spearers[spearer];
        int before = goer.hole;
        goer.hole = hole;
        return before;
    }

    /** Adds a warden; answers the number. */
    public int warden(int x, int y, int pace)
            throws IndexOutOfBoundsException, IllegalArgumentException, IllegalStateException {
        if (!isCell(x, y)) {
            throw new IndexOutOfBoundsException("no such cell");
        }
        if (!isWithin(pace, 1, MOST_PACE)) {
            throw new IllegalArgumentException("a pace is 1 to 8");
        }
        if (lake.wardenCount >= MOST_WARDENS) {
            throw new IllegalStateException("there are 3 wardens");
        }
        return lake.addWarden(x, y, pace);
    }

    // ---- what is there

    /** Tells of a cell: 0 eels, 1 mud, 2 the open hole in it, 3 what a spearer without a lamp would catch there. */
    public int cell(int x, int y, int what) throws IndexOutOfBoundsException {
        if (!isCell(x, y) || !isWithin(what, 0, CELL_FACTS - 1)) {
            throw new IndexOutOfBoundsException("no such cell, or nothing to tell of it");
        }
        return lake.cellFact(x, y, what);
    }

    /** Tells of a hole: 0 x, 1 y, 2 whether it is open, 3 spearers at it, 4 how far the nearest warden is. */
    public int hole(int hole, int what) throws IndexOutOfBoundsException {
        if (!lake.hasHole(hole) || !isWithin(what, 0, HOLE_FACTS - 1)) {
            throw new IndexOutOfBoundsException("no such hole, or nothing to tell of it");
        }
        return lake.holeFact(hole, what);
    }

    /** Tells of a spearer: 0 permit, 1 light, 2 hole, 3 catch of the latest night, 4 eels in all, 5 fines. */
    public int spearer(int spearer, int what) throws IndexOutOfBoundsException {
        if (!lake.hasSpearer(spearer) || !isWithin(what, 0, SPEARER_FACTS - 1)) {
            throw new IndexOutOfBoundsException("no such spearer, or nothing to tell of this one");
        }
        return lake.spearers[spearer].tell(what);
    }

    /** Tells of a warden: 0 x, 1 y, 2 pace, 3 fines that this one gave. */
    public int about(int warden, int what) throws IndexOutOfBoundsException {
        if (!lake.hasWarden(warden) || !isWithin(what, 0, WARDEN_FACTS - 1)) {
            throw new IndexOutOfBoundsException("no such warden, or nothing to tell of this one");
        }
        return lake.wardens[warden].tell(what);
    }

    /**
     * Tells of the lake: 0 the night, 1 the ice, 2 whether it bears, 3 eels of the lake, 4 holes, 5 open ones,
     * 6 spearers, 7 eels of spearers, 8 fines.
     */
    public int count(int what) throws IndexOutOfBoundsException {
        if (!isWithin(what, 0, LAKE_FACTS - 1)) {
            throw new IndexOutOfBoundsException("nothing to count");
        }
        return lake.fact(what);
    }

    // ---- nights and what would be

    /** Lets nights go by; answers what spearers catch in them without what they give back. */
    public int pass(int nights) throws IllegalArgumentException {
        if (!isWithin(nights, 1, MOST_NIGHTS)) {
            throw new IllegalArgumentException("nights are 1 to 40");
        }
        return lake.letNightsGo(nights);
    }

    /** Tells behind how many nights the ice does not bear for the first time; -1 if it bears for 200. */
    public int bears() {
        int ice = lake.ice;
        for (int nights = 0; nights <= BEARING_NIGHTS; nights++) {
            if (!iceBears(ice)) {
                return nights;
            }
            ice = iceBehind(ice, lake.frostOf(lake.night + nights));
        }
        return NONE;
    }

    /** Tells 1, 3, 5, 7 or 8 of count() as it would be behind so many nights. */
    public int foresee(int nights, int what) throws IllegalArgumentException, IndexOutOfBoundsException {
        if (!isWithin(nights, 1, MOST_NIGHTS)) {
            throw new IllegalArgumentException("nights are 1 to 40");
        }
        if (!isForeseen(what)) {
            throw new IndexOutOfBoundsException("this is not foreseen");
        }
        draft.become(lake);
        draft.letNightsGo(nights);
        return draft.fact(what);
    }

    /** Tells the open hole at which a spearer would have the most eels in all behind 5 nights. */
    public int advise(int spearer) throws IndexOutOfBoundsException {
        if (!lake.hasSpearer(spearer)) {
            throw new IndexOutOfBoundsException("no such spearer");
        }
        int best = NONE;
        int most = NONE;
        for (int hole = 0; hole < lake.holeCount; hole++) {
            if (lake.holes[hole].open) {
                int eels = eelsIfAt(spearer, hole);
                if (eels > most) {
                    most = eels;
                    best = hole;
                }
            }
        }
        return best;
    }

    /** Tells the mean catch of the latest night of all spearers; 0 without one. */
    public double mean() {
        if (lake.spearerCount <= 0) {
            return 0.0;
        }
        int sum = 0;
        for (int s = 0; s < lake.spearerCount; s++) {
            sum += lake.spearers[s].caught;
        }
        return (double) sum / (double) lake.spearerCount;
    }

    /** Computes a checksum of all that the other calls tell. */
    public long digest() {
        long d = DIGEST_START;
        for (int what = 0; what < LAKE_FACTS; what++) {
            d = mixed(d, lake.fact(what));
        }
        d = digestOfCells(d);
        for (int night = 0; night < WEEK; night++) {
            d = mixed(d, lake.frost[night]);
        }
        for (int h = 0; h < lake.holeCount; h++) {
            for (int what = 0; what < HOLE_FACTS; what++) {
                d = mixed(d, lake.holeFact(h, what));
            }
        }
        return digestOfPeople(d);
    }

    private long digestOfCells(long start) {
        long d = start;
        for (int y = 0; y < SIDE; y++) {
            for (int x = 0; x < SIDE; x++) {
                for (int what = 0; what < CELL_FACTS; what++) {
                    d = mixed(d, lake.cellFact(x, y, what));
                }
            }
        }
        return d;
    }

    private long digestOfPeople(long start) {
        long d = start;
        for (int s = 0; s < lake.spearerCount; s++) {
            for (int what = 0; what < SPEARER_FACTS; what++) {
                d = mixed(d, lake.spearers[s].tell(what));
            }
        }
        for (int w = 0; w < lake.wardenCount; w++) {
            for (int what = 0; what < WARDEN_FACTS; what++) {
                d = mixed(d, lake.wardens[w].tell(what));
            }
        }
        return d;
    }

    /** Both numbers must be those of a spearer and an open hole. */
    private int eelsIfAt(int spearer, int hole) {
        draft.become(lake);
        draft.spearers[spearer].hole = hole;
        draft.letNightsGo(ADVISED_NIGHTS);
        return draft.spearers[spearer].eels;
    }

    private static long mixed(long d, int x) {
        return d * DIGEST_FACTOR + x;
    }

    private static boolean isForeseen(int what) {
        return what == 1 || what == 3 || what == 5 || what == 7 || what == 8;
    }

    private static boolean isWithin(int number, int least, int most) {
        return number >= least && number <= most;
    }

    private static boolean isCell(int x, int y) {
        return isWithin(x, 0, SIDE - 1) && isWithin(y, 0, SIDE - 1);
    }

    private static int cellAt(int x, int y) {
        return SIDE * y + x;
    }

    private static int distance(int x, int y, int otherX, int otherY) {
        return Math.max(Math.abs(x - otherX), Math.abs(y - otherY));
    }

    private static boolean iceBears(int ice) {
        return ice >= BEARING_ICE;
    }

    private static int iceBehind(int ice, int frost) {
        return Math.max(0, Math.min(MOST_ICE, ice + frost));
    }

    /** A hole in the ice. */
    private static final class Hole {
        int x;
        int y;
        boolean open;

        Hole() {
        }

        void become(Hole other) {
            x = other.x;
            y = other.y;
            open = other.open;
        }
    }

    /** A spearer with permit and lamp. */
    private static final class Spearer {
        int permit;
        int light;
        int hole;
        int caught;
        int eels;
        int fines;

        Spearer() {
            hole = NONE;
        }

        void become(Spearer other) {
            permit = other.permit;
            light = other.light;
            hole = other.hole;
            caught = other.caught;
            eels = other.eels;
            fines = other.fines;
        }

        boolean tookTooMuch() {
            return caught > permit;
        }

        int tell(int what) {
            switch (what) {
                case 0:
                    return permit;
                case 1:
                    return light;
                case 2:
                    return hole;
                case 3:
                    return caught;
                case 4:
                    return eels;
                default:
                    return fines;
            }
        }
    }

    /** A warden on a sledge. */
    private static final class Warden {
        int x;
        int y;
        int pace;
        int fines;

        Warden() {
        }

        void become(Warden other) {
            x = other.x;
            y = other.y;
            pace = other.pace;
            fines = other.fines;
        }

        void goTowards(Hole hole) {
            for (int step = 0; step < pace; step++) {
                x += Integer.compare(hole.x, x);
                y += Integer.compare(hole.y, y);
            }
        }

        int tell(int what) {
            switch (what) {
                case 0:
                    return x;
                case 1:
                    return y;
                case 2:
                    return pace;
                default:
                    return fines;
            }
        }
    }

    /** All that there is, and how a night changes it. */
    private static final class Lake {
        final int[] eels;
        final int[] mud;
        final int[] frost;
        final Hole[] holes;
        final Spearer[] spearers;
        final Warden[] wardens;
        int holeCount;
        int spearerCount;
        int wardenCount;
        int ice;
        int night;

        /** Everybody who may ever come is made here, so that later calls make nothing. */
        Lake() {
            eels = new int[CELLS];
            mud = new int[CELLS];
            for (int c = 0; c < CELLS; c++) {
                mud[c] = FIRST_MUD;
            }
            frost = new int[WEEK];
            for (int n = 0; n < WEEK; n++) {
                frost[n] = FIRST_FROST;
            }
            holes = new Hole[MOST_HOLES];
            for (int h = 0; h < MOST_HOLES; h++) {
                holes[h] = new Hole();
            }
            spearers = new Spearer[MOST_SPEARERS];
            for (int s = 0; s < MOST_SPEARERS; s++) {
                spearers[s] = new Spearer();
            }
            wardens = new Warden[MOST_WARDENS];
            for (int w = 0; w < MOST_WARDENS; w++) {
                wardens[w] = new Warden();
            }
            ice = FIRST_ICE;
        }

        void become(Lake other) {
            for (int c = 0; c < CELLS; c++) {
                eels[c] = other.eels[c];
                mud[c] = other.mud[c];
            }
            for (int n = 0; n < WEEK; n++) {
                frost[n] = other.frost[n];
            }
            holeCount = other.holeCount;
            for (int h = 0; h < holeCount; h++) {
                holes[h].become(other.holes[h]);
            }
            spearerCount = other.spearerCount;
            for (int s = 0; s < spearerCount; s++) {
                spearers[s].become(other.spearers[s]);
            }
            wardenCount = other.wardenCount;
            for (int w = 0; w < wardenCount; w++) {
                wardens[w].become(other.wardens[w]);
            }
            ice = other.ice;
            night = other.night;
        }

        // -- who and what is there

        boolean hasHole(int hole) {
            return isWithin(hole, 0, holeCount - 1);
        }

        boolean hasSpearer(int spearer) {
            return isWithin(spearer, 0, spearerCount - 1);
        }

        boolean hasWarden(int warden) {
            return isWithin(warden, 0, wardenCount - 1);
        }

        /** There must be fewer than 12. */
        int addHole(int x, int y) {
            Hole hole = holes[holeCount];
            hole.x = x;
            hole.y = y;
            hole.open = true;
            holeCount++;
            return holeCount - 1;
        }

        /** There must be fewer than 8. */
        int addSpearer(int permit, int light) {
            Spearer spearer = spearers[spearerCount];
            spearer.permit = permit;
            spearer.light = light;
            spearerCount++;
            return spearerCount - 1;
        }

        /** There must be fewer than 3. */
        int addWarden(int x, int y, int pace) {
            Warden warden = wardens[wardenCount];
            warden.x = x;
            warden.y = y;
            warden.pace = pace;
            wardenCount++;
            return wardenCount - 1;
        }

        int openHoleIn(int x, int y) {
            for (int h = 0; h < holeCount; h++) {
                Hole hole = holes[h];
                if (hole.open && hole.x == x && hole.y == y) {
                    return h;
                }
            }
            return NONE;
        }

        int frostOf(int someNight) {
            return frost[Math.floorMod(someNight, WEEK)];
        }

        /** What a spear takes from a cell as it is now. */
        int catchIn(int cell) {
            int wanted = eels[cell] / 2 + 1 - mud[cell];
            return Math.min(eels[cell], Math.max(0, wanted));
        }

        // -- what is told

        int cellFact(int x, int y, int what) {
            int cell = cellAt(x, y);
            switch (what) {
                case 0:
                    return eels[cell];
                case 1:
                    return mud[cell];
                case 2:
                    return openHoleIn(x, y);
                default:
                    return catchIn(cell);
            }
        }

        int holeFact(int hole, int what) {
            switch (what) {
                case 0:
                    return holes[hole].x;
                case 1:
                    return holes[hole].y;
                case 2:
                    return holes[hole].open ? 1 : 0;
                case 3:
                    return spearersAt(hole);
                default:
                    return nearestWardenTo(holes[hole]);
            }
        }

        int fact(int what) {
            switch (what) {
                case 0:
                    return night;
                case 1:
                    return ice;
                case 2:
                    return iceBears(ice) ? 1 : 0;
                case 3:
                    return eelsOfLake();
                case 4:
                    return holeCount;
                case 5:
                    return openHoles();
                case 6:
                    return spearerCount;
                case 7:
                    return eelsOfSpearers();
                default:
                    return finesOfSpearers();
            }
        }

        private int spearersAt(int hole) {
            int there = 0;
            for (int s = 0; s < spearerCount; s++) {
                if (spearers[s].hole == hole) {
                    there++;
                }
            }
            return there;
        }

        private int nearestWardenTo(Hole hole) {
            int nearest = NONE;
            for (int w = 0; w < wardenCount; w++) {
                int far = distance(wardens[w].x, wardens[w].y, hole.x, hole.y);
                if (nearest == NONE || far < nearest) {
                    nearest = far;
                }
            }
            return nearest;
        }

        private int eelsOfLake() {
            int sum = 0;
            for (int c = 0; c < CELLS; c++) {
                sum += eels[c];
            }
            return sum;
        }

        private int openHoles() {
            int open = 0;
            for (int h = 0; h < holeCount; h++) {
                if (holes[h].open) {
                    open++;
                }
            }
            return open;
        }

        private int eelsOfSpearers() {
            int sum = 0;
            for (int s = 0; s < spearerCount; s++) {
                sum += spearers[s].eels;
            }
            return sum;
        }

        private int finesOfSpearers() {
            int sum = 0;
            for (int s = 0; s < spearerCount; s++) {
                sum += spearers[s].fines;
            }
            return sum;
        }

        // -- how nights go

        /** Answers what spearers catch without what they give back. */
        int letNightsGo(int nights) {
            int kept = 0;
            for (int n = 0; n < nights; n++) {
                lightLamps();
                spearEels();
                sendWardens();
                kept += keepCatches();
                breedEels();
                freeze();
                night++;
            }
            return kept;
        }

        private void lightLamps() {
            for (int s = 0; s < spearerCount; s++) {
                Spearer spearer = spearers[s];
                if (hasHole(spearer.hole)) {
                    lure(holes[spearer.hole], spearer.light);
                }
            }
        }

        private void lure(Hole hole, int light) {
            int here = cellAt(hole.x, hole.y);
            int firstX = Math.max(0, hole.x - light);
            int lastX = Math.min(SIDE - 1, hole.x + light);
            int firstY = Math.max(0, hole.y - light);
            int lastY = Math.min(SIDE - 1, hole.y + light);
            for (int y = firstY; y <= lastY; y++) {
                for (int x = firstX; x <= lastX; x++) {
                    if (cellAt(x, y) != here) {
                        moveEels(cellAt(x, y), here);
                    }
                }
            }
        }

        private void moveEels(int from, int into) {
            int room = MOST_EELS - eels[into];
            int moved = Math.min(LURED_EELS, Math.min(eels[from], room));
            eels[from] -= moved;
            eels[into] += moved;
        }

        private void spearEels() {
            for (int s = 0; s < spearerCount; s++) {
                Spearer spearer = spearers[s];
                spearer.caught = 0;
                if (hasHole(spearer.hole)) {
                    Hole hole = holes[spearer.hole];
                    int cell = cellAt(hole.x, hole.y);
                    spearer.caught = catchIn(cell);
                    eels[cell] -= spearer.caught;
                }
            }
        }

        private void sendWardens() {
            for (int w = 0; w < wardenCount; w++) {
                Warden warden = wardens[w];
                int goal = nearestOffence(warden);
                if (hasHole(goal)) {
                    Hole hole = holes[goal];
                    warden.goTowards(hole);
                    if (warden.x == hole.x && warden.y == hole.y) {
                        fineAllAt(goal, warden);
                    }
                }
            }
        }

        /** Of holes equally near the first is kept, which has the smallest number. */
        private int nearestOffence(Warden warden) {
            int nearest = NONE;
            int least = SIDE;
            for (int h = 0; h < holeCount; h++) {
                int far = distance(warden.x, warden.y, holes[h].x, holes[h].y);
                if (far < least && hasOffender(h)) {
                    least = far;
                    nearest = h;
                }
            }
            return nearest;
        }

        private boolean hasOffender(int hole) {
            for (int s = 0; s < spearerCount; s++) {
                if (spearers[s].hole == hole && spearers[s].tookTooMuch()) {
                    return true;
                }
            }
            return false;
        }

        private void fineAllAt(int hole, Warden warden) {
            int cell = cellAt(holes[hole].x, holes[hole].y);
            for (int s = 0; s < spearerCount; s++) {
                Spearer spearer = spearers[s];
                if (spearer.hole == hole && spearer.tookTooMuch()) {
                    int back = spearer.caught - spearer.permit;
                    spearer.caught = spearer.permit;
                    spearer.fines++;
                    warden.fines++;
                    eels[cell] = Math.min(MOST_EELS, eels[cell] + back);
                }
            }
        }

        private int keepCatches() {
            int kept = 0;
            for (int s = 0; s < spearerCount; s++) {
                spearers[s].eels += spearers[s].caught;
                kept += spearers[s].caught;
            }
            return kept;
        }

        private void breedEels() {
            for (int c = 0; c < CELLS; c++) {
                if (isWithin(eels[c], 1, MOST_BREEDING_EELS)) {
                    eels[c] += eels[c] / 10 + 1;
                }
            }
        }

        private void freeze() {
            int change = frostOf(night);
            ice = iceBehind(ice, change);
            if (!iceBears(ice)) {
                closeAllHoles();
            }
            if (change > 0) {
                closeEmptyHoles();
            }
        }

        private void closeAllHoles() {
            for (int h = 0; h < holeCount; h++) {
                holes[h].open = false;
            }
            for (int s = 0; s < spearerCount; s++) {
                spearers[s].hole = NONE;
            }
        }

        private void closeEmptyHoles() {
            for (int h = 0; h < holeCount; h++) {
                if (spearersAt(h) == 0) {
                    holes[h].open = false;
                }
            }
        }
    }
}
