import java.util.ArrayList;
import java.util.List;

/**
 * A second reading of the document, as plain as can be and written apart from the class, for random runs. An answer is
 * a text: the number, or the name of the exception.
 */
final class Twin {
    static final String INDEX = "IndexOutOfBoundsException";
    static final String ARGUMENT = "IllegalArgumentException";
    static final String STATE = "IllegalStateException";

    int[][] eels = new int[9][9];
    int[][] mud = new int[9][9];
    int[] frost = {2, 2, 2, 2, 2, 2, 2};
    /** x, y, open. */
    List<int[]> holes = new ArrayList<>();
    /** permit, light, hole, catch, eels, fines. */
    List<int[]> spearers = new ArrayList<>();
    /** x, y, pace, fines. */
    List<int[]> wardens = new ArrayList<>();
    int ice = 20;
    int night = 0;

    Twin() {
        for (int[] column : mud) {
            java.util.Arrays.fill(column, 2);
        }
    }

    Twin copy() {
        Twin t = new Twin();
        for (int x = 0; x < 9; x++) {
            t.eels[x] = eels[x].clone();
            t.mud[x] = mud[x].clone();
        }
        t.frost = frost.clone();
        holes.forEach(h -> t.holes.add(h.clone()));
        spearers.forEach(s -> t.spearers.add(s.clone()));
        wardens.forEach(w -> t.wardens.add(w.clone()));
        t.ice = ice;
        t.night = night;
        return t;
    }

    private static boolean out(int number, int most) {
        return number < 0 || number > most;
    }

    private static int far(int x, int y, int[] other) {
        return Math.max(Math.abs(x - other[0]), Math.abs(y - other[1]));
    }

    String set(int x, int y, int newEels, int newMud) {
        if (out(x, 8) || out(y, 8)) {
            return INDEX;
        }
        if (out(newEels, 60) || out(newMud, 9)) {
            return ARGUMENT;
        }
        String answer = "" + (10 * eels[x][y] + mud[x][y]);
        eels[x][y] = newEels;
        mud[x][y] = newMud;
        return answer;
    }

    String setFrost(int n, int newFrost) {
        if (out(n, 6)) {
            return INDEX;
        }
        if (newFrost < -20 || newFrost > 20) {
            return ARGUMENT;
        }
        String answer = "" + frost[n];
        frost[n] = newFrost;
        return answer;
    }

    String cut(int x, int y) {
        if (out(x, 8) || out(y, 8)) {
            return INDEX;
        }
        if (ice < 5 || openHole(x, y) >= 0 || holes.size() == 12) {
            return STATE;
        }
        holes.add(new int[] {x, y, 1});
        return "" + (holes.size() - 1);
    }

    String license(int permit, int light) {
        if (out(permit, 30) || out(light, 4)) {
            return ARGUMENT;
        }
        if (spearers.size() == 8) {
            return STATE;
        }
        spearers.add(new int[] {permit, light, -1, 0, 0, 0});
        return "" + (spearers.size() - 1);
    }

    String go(int s, int h) {
        if (out(s, spearers.size() - 1) || h != -1 && out(h, holes.size() - 1)) {
            return INDEX;
        }
        if (h != -1 && holes.get(h)[2] == 0) {
            return STATE;
        }
        String answer = "" + spearers.get(s)[2];
        spearers.get(s)[2] = h;
        return answer;
    }

    String warden(int x, int y, int pace) {
        if (out(x, 8) || out(y, 8)) {
            return INDEX;
        }
        if (pace < 1 || pace > 8) {
            return ARGUMENT;
        }
        if (wardens.size() == 3) {
            return STATE;
        }
        wardens.add(new int[] {x, y, pace, 0});
        return "" + (wardens.size() - 1);
    }

    int openHole(int x, int y) {
        for (int h = 0; h < holes.size(); h++) {
            int[] hole = holes.get(h);
            if (hole[0] == x && hole[1] == y && hole[2] == 1) {
                return h;
            }
        }
        return -1;
    }

    int spear(int x, int y) {
        int c = eels[x][y] / 2 + 1 - mud[x][y];
        if (c < 0) {
            c = 0;
        }
        return c > eels[x][y] ? eels[x][y] : c;
    }

    int cellNow(int x, int y, int what) {
        int[] all = {eels[x][y], mud[x][y], openHole(x, y), spear(x, y)};
        return all[what];
    }

    String cell(int x, int y, int what) {
        return out(x, 8) || out(y, 8) || out(what, 3) ? INDEX : "" + cellNow(x, y, what);
    }

    int holeNow(int h, int what) {
        int[] hole = holes.get(h);
        int there = (int) spearers.stream().filter(s -> s[2] == h).count();
        int near = wardens.stream().mapToInt(w -> far(w[0], w[1], hole)).min().orElse(-1);
        int[] all = {hole[0], hole[1], hole[2], there, near};
        return all[what];
    }

    String hole(int h, int what) {
        return out(h, holes.size() - 1) || out(what, 4) ? INDEX : "" + holeNow(h, what);
    }

    String spearer(int s, int what) {
        return out(s, spearers.size() - 1) || out(what, 5) ? INDEX : "" + spearers.get(s)[what];
    }

    String about(int w, int what) {
        return out(w, wardens.size() - 1) || out(what, 3) ? INDEX : "" + wardens.get(w)[what];
    }

    int countNow(int what) {
        int lake = 0;
        for (int[] column : eels) {
            for (int e : column) {
                lake += e;
            }
        }
        int open = holes.stream().mapToInt(h -> h[2]).sum();
        int had = spearers.stream().mapToInt(s -> s[4]).sum();
        int fines = spearers.stream().mapToInt(s -> s[5]).sum();
        int[] all = {night, ice, ice >= 5 ? 1 : 0, lake, holes.size(), open, spearers.size(), had, fines};
        return all[what];
    }

    String count(int what) {
        return out(what, 8) ? INDEX : "" + countNow(what);
    }

    String pass(int nights) {
        if (nights < 1 || nights > 40) {
            return ARGUMENT;
        }
        int before = countNow(7);
        for (int n = 0; n < nights; n++) {
            oneNight();
        }
        return "" + (countNow(7) - before);
    }

    void oneNight() {
        for (int[] s : spearers) {
            if (s[2] >= 0) {
                lamp(holes.get(s[2])[0], holes.get(s[2])[1], s[1]);
            }
        }
        for (int[] s : spearers) {
            s[3] = 0;
            if (s[2] >= 0) {
                int x = holes.get(s[2])[0];
                int y = holes.get(s[2])[1];
                s[3] = spear(x, y);
                eels[x][y] -= s[3];
            }
        }
        for (int[] w : wardens) {
            ride(w);
        }
        for (int[] s : spearers) {
            s[4] += s[3];
        }
        for (int x = 0; x < 9; x++) {
            for (int y = 0; y < 9; y++) {
                if (eels[x][y] >= 1 && eels[x][y] <= 40) {
                    eels[x][y] += eels[x][y] / 10 + 1;
                }
            }
        }
        ice = iceBehind(ice, night);
        if (ice < 5) {
            holes.forEach(h -> h[2] = 0);
            spearers.forEach(s -> s[2] = -1);
        }
        for (int h = 0; h < holes.size(); h++) {
            if (frost[night % 7] > 0 && holeNow(h, 3) == 0) {
                holes.get(h)[2] = 0;
            }
        }
        night++;
    }

    void lamp(int hx, int hy, int light) {
        for (int y = 0; y < 9; y++) {
            for (int x = 0; x < 9; x++) {
                boolean lit = far(x, y, new int[] {hx, hy}) <= light && (x != hx || y != hy);
                for (int eel = 0; eel < 2; eel++) {
                    if (lit && eels[x][y] > 0 && eels[hx][hy] < 60) {
                        eels[x][y]--;
                        eels[hx][hy]++;
                    }
                }
            }
        }
    }

    void ride(int[] w) {
        int goal = -1;
        for (int far = 0; far <= 8 && goal < 0; far++) {
            for (int h = 0; h < holes.size() && goal < 0; h++) {
                int number = h;
                boolean wanted = spearers.stream().anyMatch(s -> s[2] == number && s[3] > s[0]);
                if (wanted && far(w[0], w[1], holes.get(h)) == far) {
                    goal = h;
                }
            }
        }
        if (goal < 0) {
            return;
        }
        int[] hole = holes.get(goal);
        for (int step = 0; step < w[2]; step++) {
            w[0] += w[0] < hole[0] ? 1 : w[0] > hole[0] ? -1 : 0;
            w[1] += w[1] < hole[1] ? 1 : w[1] > hole[1] ? -1 : 0;
        }
        for (int[] s : spearers) {
            if (far(w[0], w[1], hole) == 0 && s[2] == goal && s[3] > s[0]) {
                eels[w[0]][w[1]] = Math.min(60, eels[w[0]][w[1]] + s[3] - s[0]);
                s[3] = s[0];
                s[5]++;
                w[3]++;
            }
        }
    }

    int iceBehind(int thick, int n) {
        int then = thick + frost[n % 7];
        return then < 0 ? 0 : then > 90 ? 90 : then;
    }

    String bears() {
        int thick = ice;
        int nights = 0;
        while (thick >= 5 && nights <= 200) {
            thick = iceBehind(thick, night + nights);
            nights++;
        }
        return nights > 200 ? "-1" : "" + nights;
    }

    String foresee(int nights, int what) {
        if (nights < 1 || nights > 40) {
            return ARGUMENT;
        }
        if (!List.of(1, 3, 5, 7, 8).contains(what)) {
            return INDEX;
        }
        Twin then = copy();
        then.pass(nights);
        return then.count(what);
    }

    String advise(int s) {
        if (out(s, spearers.size() - 1)) {
            return INDEX;
        }
        int best = -1;
        int most = -1;
        for (int h = holes.size() - 1; h >= 0; h--) {
            if (holes.get(h)[2] == 1) {
                Twin then = copy();
                then.go(s, h);
                then.pass(5);
                if (then.spearers.get(s)[4] >= most) {
                    most = then.spearers.get(s)[4];
                    best = h;
                }
            }
        }
        return "" + best;
    }

    String mean() {
        return "" + spearers.stream().mapToInt(s -> s[3]).average().orElse(0.0);
    }

    String digest() {
        List<Integer> all = new ArrayList<>();
        for (int what = 0; what < 9; what++) {
            all.add(countNow(what));
        }
        for (int c = 0; c < 81; c++) {
            for (int what = 0; what < 4; what++) {
                all.add(cellNow(c % 9, c / 9, what));
            }
        }
        for (int f : frost) {
            all.add(f);
        }
        for (int h = 0; h < holes.size(); h++) {
            for (int what = 0; what < 5; what++) {
                all.add(holeNow(h, what));
            }
        }
        for (int[] s : spearers) {
            for (int number : s) {
                all.add(number);
            }
        }
        for (int[] w : wardens) {
            for (int number : w) {
                all.add(number);
            }
        }
        long d = 1187;
        for (int x : all) {
            d = d * 31 + x;
        }
        return "" + d;
    }
}
