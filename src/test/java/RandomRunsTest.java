/**
 * Runs of 512 calls on the class and on its twin, half of them good and bad ones, and half of them digests; their
 * numbers come from a fixed row.
 */
final class RandomRunsTest {
    private static final int RUNS = 800;
    private static final int CALLS = 512 / 2;
    private static final int[] WILD = {Integer.MIN_VALUE, -21, -2, -1, 7, 9, 12, 31, 41, 61, Integer.MAX_VALUE};

    private long seed;
    private int boldness;
    private EelPermits lake;
    private Twin twin;
    private String call;

    public static void main(String[] args) {
        for (int run = 0; run < RUNS; run++) {
            new RandomRunsTest().goThrough(run);
        }
        Check.end();
    }

    private void goThrough(int run) {
        seed = 77 + run * 1000003L;
        boldness = run % 5;
        lake = new EelPermits();
        twin = new Twin();
        for (int i = 0; i < CALLS; i++) {
            String got;
            String due;
            int kind = below(100);
            int[] a = arguments(kind);
            due = askTwin(kind, a);
            try {
                got = askLake(kind, a);
            } catch (RuntimeException e) {
                got = e.getClass().getSimpleName();
            }
            compare(run, i, got, due);
            compareDigest(run, i);
        }
    }

    private void compare(int run, int i, String got, String due) {
        Check.same("run " + run + ", call " + i + ", " + call + ": right", got.equals(due) ? 1 : 0, 1);
        if (!got.equals(due)) {
            Check.fail("  answered " + got + ", due is " + due);
        }
    }

    private void compareDigest(int run, int i) {
        Check.same("run " + run + ", digest behind call " + i + ", " + call, lake.digest(),
            Long.parseLong(twin.digest()));
    }

    private int below(int bound) {
        seed = seed * 6364136223846793005L + 1442695040888963407L;
        return (int) ((seed >>> 33) % bound);
    }

    private int from(int least, int most) {
        if (below(40) == 0) {
            return WILD[below(WILD.length)];
        }
        return least + below(most - least + 1);
    }

    /** Four numbers, of which a call takes as many as it needs. */
    private int[] arguments(int kind) {
        int cold = boldness == 0 ? -20 : -2 - boldness;
        if (kind < 22) {
            return new int[] {from(0, 8), from(0, 8), from(0, 60), from(0, 9) * from(0, 2) / 2};
        } else if (kind < 27) {
            return new int[] {from(0, 6), from(cold, 7 + boldness), 0, 0};
        } else if (kind < 36) {
            return new int[] {from(0, 8), from(0, 8), 0, 0};
        } else if (kind < 40) {
            return new int[] {from(0, 30) / (1 + below(6)), from(0, 4), 0, 0};
        } else if (kind < 52) {
            return new int[] {from(0, 7), from(-1, 11), 0, 0};
        } else if (kind < 54) {
            return new int[] {from(0, 8), from(0, 8), from(1, 8), 0};
        } else if (kind < 58) {
            return new int[] {from(0, 8), from(0, 8), from(0, 3), 0};
        } else if (kind < 70) {
            return new int[] {from(0, 11), from(0, 5), 0, 0};
        } else if (kind < 84) {
            return new int[] {from(1, 2 + 4 * boldness), 0, 0, 0};
        }
        return new int[] {from(1, 40), from(1, 8), 0, 0};
    }

    private String askTwin(int kind, int[] a) {
        if (kind < 22) {
            return twin.set(a[0], a[1], a[2], a[3]);
        } else if (kind < 27) {
            return twin.setFrost(a[0], a[1]);
        } else if (kind < 36) {
            return twin.cut(a[0], a[1]);
        } else if (kind < 40) {
            return twin.license(a[0], a[1]);
        } else if (kind < 52) {
            return twin.go(a[0], a[1]);
        } else if (kind < 54) {
            return twin.warden(a[0], a[1], a[2]);
        } else if (kind < 58) {
            return twin.cell(a[0], a[1], a[2]);
        } else if (kind < 62) {
            return twin.hole(a[0], a[1]);
        } else if (kind < 66) {
            return twin.spearer(a[0], a[1]);
        } else if (kind < 68) {
            return twin.about(a[0], a[1]);
        } else if (kind < 70) {
            return twin.count(a[0]);
        } else if (kind < 84) {
            return twin.pass(a[0]);
        } else if (kind < 88) {
            return twin.bears();
        } else if (kind < 92) {
            return twin.foresee(a[0], a[1]);
        } else if (kind < 97) {
            return twin.advise(a[0] % 9);
        }
        return twin.mean();
    }

    private String askLake(int kind, int[] a) {
        if (kind < 22) {
            call = "set(" + a[0] + ", " + a[1] + ", " + a[2] + ", " + a[3] + ")";
            return "" + lake.set(a[0], a[1], a[2], a[3]);
        } else if (kind < 27) {
            call = "setFrost(" + a[0] + ", " + a[1] + ")";
            return "" + lake.setFrost(a[0], a[1]);
        } else if (kind < 36) {
            call = "cut(" + a[0] + ", " + a[1] + ")";
            return "" + lake.cut(a[0], a[1]);
        } else if (kind < 40) {
            call = "license(" + a[0] + ", " + a[1] + ")";
            return "" + lake.license(a[0], a[1]);
        } else if (kind < 52) {
            call = "go(" + a[0] + ", " + a[1] + ")";
            return "" + lake.go(a[0], a[1]);
        } else if (kind < 54) {
            call = "warden(" + a[0] + ", " + a[1] + ", " + a[2] + ")";
            return "" + lake.warden(a[0], a[1], a[2]);
        } else if (kind < 58) {
            call = "cell(" + a[0] + ", " + a[1] + ", " + a[2] + ")";
            return "" + lake.cell(a[0], a[1], a[2]);
        } else if (kind < 62) {
            call = "hole(" + a[0] + ", " + a[1] + ")";
            return "" + lake.hole(a[0], a[1]);
        } else if (kind < 66) {
            call = "spearer(" + a[0] + ", " + a[1] + ")";
            return "" + lake.spearer(a[0], a[1]);
        } else if (kind < 68) {
            call = "about(" + a[0] + ", " + a[1] + ")";
            return "" + lake.about(a[0], a[1]);
        } else if (kind < 70) {
            call = "count(" + a[0] + ")";
            return "" + lake.count(a[0]);
        } else if (kind < 84) {
            call = "pass(" + a[0] + ")";
            return "" + lake.pass(a[0]);
        } else if (kind < 88) {
            call = "bears()";
            return "" + lake.bears();
        } else if (kind < 92) {
            call = "foresee(" + a[0] + ", " + a[1] + ")";
            return "" + lake.foresee(a[0], a[1]);
        } else if (kind < 97) {
            call = "advise(" + a[0] % 9 + ")";
            return "" + lake.advise(a[0] % 9);
        }
        call = "mean()";
        return "" + lake.mean();
    }
}
