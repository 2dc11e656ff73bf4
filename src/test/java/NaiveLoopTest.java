import java.util.Random;

/** Long random runs of calls; every answer is compared with NaiveLoop's. */
public final class NaiveLoopTest {
    private static final int RUNS = 1500;
    private static final int CALLS = 512;

    private final Random random;
    private final DeadTimeLoop loop = new DeadTimeLoop();
    private final NaiveLoop naive = new NaiveLoop();
    private final String label;
    /** Small levels make equal values, zero errors and settled ticks frequent. */
    private final int level;
    private final int longestRun;

    private NaiveLoopTest(int seed) {
        random = new Random(seed);
        label = "run " + seed;
        level = new int[] {3, 40, 2000, 100000}[random.nextInt(4)];
        longestRun = new int[] {1, 4, 40, 500}[random.nextInt(4)];
    }

    public static void main(String[] args) {
        for (int seed = 0; seed < RUNS && Check.allRight(); seed++) {
            NaiveLoopTest test = new NaiveLoopTest(seed);
            for (int n = 0; n < CALLS - 10 && Check.allRight(); n++) {
                test.call(n);
            }
            test.compareSignals();
        }
        Check.end();
    }

    private int between(int least, int greatest) {
        return least + random.nextInt(greatest - least + 1);
    }

    /** Mostly a value in the range, sometimes its edge or the first value beyond it. */
    private int near(int least, int greatest) {
        switch (random.nextInt(24)) {
            case 0: return least;
            case 1: return greatest;
            case 2: return least - 1;
            case 3: return greatest + 1;
            case 4: return random.nextInt(8) == 0 ? Integer.MIN_VALUE : least;
            case 5: return random.nextInt(8) == 0 ? Integer.MAX_VALUE : greatest;
            default: return between(least, greatest);
        }
    }

    private void call(int n) {
        if (random.nextInt(100) < 35) {
            move(n);
        } else if (random.nextInt(100) < 25) {
            change(n);
        } else if (random.nextInt(100) < 20) {
            text(n);
        } else {
            ask(n);
        }
    }

    private void due(int n, String call, long got, long want) {
        Check.due(label + ", call " + n + ": " + call, got, want);
    }

    private void move(int n) {
        switch (random.nextInt(20)) {
            case 0: case 1: {
                int v = random.nextBoolean() ? near(-level, level) : near(-100000, 100000);
                due(n, "setSetpoint(" + v + ")", loop.setSetpoint(v), naive.setSetpoint(v));
                break;
            }
            case 2: {
                int v = random.nextBoolean() ? near(-level, level) : near(-100000, 100000);
                due(n, "setLoad(" + v + ")", loop.setLoad(v), naive.setLoad(v));
                break;
            }
            case 3: {
                int v = near(0, 9999);
                due(n, "setSeed(" + v + ")", loop.setSeed(v), naive.setSeed(v));
                break;
            }
            case 4:
                if (random.nextInt(6) == 0) {
                    due(n, "restart()", loop.restart(), naive.restart());
                }
                break;
            case 5:
                due(n, "store()", loop.store(), naive.store());
                break;
            case 6:
                due(n, "recall()", loop.recall(), naive.recall());
                break;
            default: {
                int v = random.nextInt(20) == 0 ? near(1, 500) : between(1, longestRun);
                due(n, "run(" + v + ")", loop.run(v), naive.run(v));
                break;
            }
        }
    }

    private void change(int n) {
        switch (random.nextInt(8)) {
            case 0:
                due(n, "undo()", loop.undo(), naive.undo());
                break;
            case 1:
                due(n, "tuneDelay()", loop.tuneDelay(), naive.tuneDelay());
                break;
            case 2:
                due(n, "apply()", loop.apply(), naive.apply());
                break;
            default: {
                int p = near(0, 14);
                int[] range = p < 0 || p > 14 ? new int[] {0, 9, 0} : NaiveLoop.RANGES[p];
                int v = usual(p, range);
                due(n, "setParameter(" + p + ", " + v + ")", loop.setParameter(p, v),
                    naive.setParameter(p, v));
                break;
            }
        }
    }

    /** Values that keep the loop interesting are likelier than those that make it run wild. */
    private int usual(int parameter, int[] range) {
        if (random.nextInt(3) == 0) {
            return near(range[0], range[1]);
        }
        switch (parameter) {
            case 0: return between(0, 2000);
            case 1: return between(0, 300);
            case 2: case 5: return between(0, 3) == 0 ? between(-1500, 1500) : between(800, 1200);
            case 4: case 7: return 10 * between(0, 12);
            case 9: return -between(0, 2 * level > 100000 ? 100000 : 2 * level);
            case 10: return between(0, 2 * level > 100000 ? 100000 : 2 * level);
            case 11: return between(1, level);
            case 12: return between(0, level);
            case 13: return between(1, 5);
            case 14: return between(0, level > 1000 ? 1000 : level);
            default: return near(range[0], range[1]);
        }
    }

    private void text(int n) {
        if (random.nextInt(3) == 0) {
            due(n, "clearText()", loop.clearText(), naive.clearText());
        }
        String piece = piece();
        for (int c = 0; c < piece.length(); c++) {
            int code = piece.charAt(c);
            due(n, "type(" + code + ")", loop.type(code), naive.type(code));
        }
        due(n, "fault() behind " + piece, loop.fault(), naive.fault());
        due(n, "assigned()", loop.assigned(), naive.assigned());
        int index = between(-1, 4);
        due(n, "assignedAt(" + index + ")", loop.assignedAt(index), naive.assignedAt(index));
    }

    private String piece() {
        int p = random.nextInt(15);
        int[] range = NaiveLoop.RANGES[p];
        String right = NaiveLoop.NAMES[p] + "=" + near(range[0], range[1]) + ";";
        switch (random.nextInt(12)) {
            case 0: return right.substring(0, random.nextInt(right.length() + 1));
            case 1: return right.substring(random.nextInt(right.length() + 1));
            case 2: return NaiveLoop.NAMES[p] + "=-0;";
            case 3: return NaiveLoop.NAMES[p] + "=0000001;";
            case 4: return NaiveLoop.NAMES[p] + "=00000001;";
            case 5: return "" + (char) between(30, 128);
            case 6: return NaiveLoop.NAMES[p] + "=--1;";
            default: return right;
        }
    }

    private void ask(int n) {
        int signal = near(0, 9);
        switch (random.nextInt(16)) {
            case 0: due(n, "time()", loop.time(), naive.time()); break;
            case 1: due(n, "value(" + signal + ")", loop.value(signal), naive.value(signal)); break;
            case 2: {
                int ago = near(0, 63);
                due(n, "recorded(" + signal + ", " + ago + ")", loop.recorded(signal, ago),
                    naive.recorded(signal, ago));
                break;
            }
            case 3: due(n, "watch(" + signal + ")", loop.watch(signal), naive.watch(signal)); break;
            case 4:
                due(n, "unwatch(" + signal + ")", loop.unwatch(signal), naive.unwatch(signal));
                break;
            case 5: {
                int index = near(0, 4);
                due(n, "watchedAt(" + index + ")", loop.watchedAt(index), naive.watchedAt(index));
                break;
            }
            case 6: case 7: {
                int what = near(0, 2);
                due(n, "extreme(" + signal + ", " + what + ")", loop.extreme(signal, what),
                    naive.extreme(signal, what));
                break;
            }
            case 8: {
                int what = near(0, 3);
                due(n, "measure(" + what + ")", loop.measure(what), naive.measure(what));
                break;
            }
            case 9: {
                int v = random.nextBoolean() ? between(0, level) : near(0, 100000);
                due(n, "settledTicks(" + v + ")", loop.settledTicks(v), naive.settledTicks(v));
                break;
            }
            default: estimate(n, signal); break;
        }
    }

    private void estimate(int n, int signal) {
        switch (random.nextInt(8)) {
            case 0: case 1: {
                int lag = near(0, 30);
                due(n, "correlation(" + lag + ")", loop.correlation(lag), naive.correlation(lag));
                break;
            }
            case 2: due(n, "estimatedLag()", loop.estimatedLag(), naive.estimatedLag()); break;
            case 3: {
                int ticks = near(1, 500);
                due(n, "ahead(" + ticks + ", " + signal + ")", loop.ahead(ticks, signal),
                    naive.ahead(ticks, signal));
                break;
            }
            case 4: {
                int ticks = near(1, 100);
                due(n, "bestGain(" + ticks + ")", loop.bestGain(ticks), naive.bestGain(ticks));
                break;
            }
            case 5: {
                int ticks = near(1, 200);
                due(n, "idealDifference(" + ticks + ")", loop.idealDifference(ticks),
                    naive.idealDifference(ticks));
                break;
            }
            case 6: {
                int p = near(0, 14);
                due(n, "parameter(" + p + ")", loop.parameter(p), naive.parameter(p));
                break;
            }
            default: {
                int p = near(0, 14);
                int index = near(0, 8);
                due(n, "nameAt(" + p + ", " + index + ")", loop.nameAt(p, index),
                    naive.nameAt(p, index));
                break;
            }
        }
    }

    private void compareSignals() {
        for (int signal = 0; signal < 10; signal++) {
            due(CALLS, "value(" + signal + ")", loop.value(signal), naive.value(signal));
        }
    }
}
