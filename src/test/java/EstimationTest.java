/** The sentences of "Correlation", and promises 28 to 30. */
public final class EstimationTest extends Bench {
    private EstimationTest() {
    }

    public static void main(String[] args) {
        correlationBeforeATick();
        correlationOfTwoSteps();
        window();
        windowOfTheGreatestLag();
        windowBehindAWrapAround();
        fullWindow();
        signOfTheModel();
        correlationsBeyondTheInts();
        lagRange();
        noEstimatedLag();
        leastEstimate();
        lowestOfSeveral();
        lagsAtBothEnds();
        tuneDelayWithoutALag();
        tuneDelayAgainstTheSecond();
        secondOnBothSides();
        tuneDelayIsAChange();
        Check.end();
    }

    /** u and m alternate: u = 1000, 0, 1000, .. and m = 0, 1000, 0, .. */
    private static DeadTimeLoop alternating(int ticks) {
        DeadTimeLoop x = with("ki=0;dead=0;lag=0;mgain=0;");
        x.setSetpoint(1000);
        if (ticks > 0) {
            x.run(ticks);
        }
        return x;
    }

    /** u steps from 0 to a height at a tick, and m follows behind the dead time. */
    private static DeadTimeLoop stepAt(int tick, int height, int dead) {
        DeadTimeLoop x = open("dead=" + dead + ";");
        if (tick > 0) {
            x.run(tick);
        }
        x.setSetpoint(height);
        return x;
    }

    /** "u and m are 0 for ticks before tick 0" */
    private static void correlationBeforeATick() {
        DeadTimeLoop x = new DeadTimeLoop();
        for (int lag = 0; lag <= 30; lag++) {
            due("correlation(" + lag + ") of no tick", x.correlation(lag), 0);
        }
        x = stepAt(0, 3, 0);
        x.run(1);
        due("correlation(0) of one tick", x.correlation(0), 0);
        x.run(1);
        due("the first step of u begins at 0", x.correlation(0), 9);
        x = alternating(0);
        x.setParameter(14, 500);
        x.run(1);
        for (int lag = 0; lag <= 30; lag++) {
            due("correlation(" + lag + ") of one noisy tick", x.correlation(lag), 0);
        }
    }

    /** "(u(t - 1 - L) - u(t - 2 - L)) * (m(t) - m(t - 1))" */
    private static void correlationOfTwoSteps() {
        DeadTimeLoop x = alternating(2);
        due("two ticks, lag 0", x.correlation(0), 1000000);
        due("two ticks, lag 1", x.correlation(1), 0);
        x.run(1);
        due("three ticks, lag 0", x.correlation(0), 2000000);
        due("three ticks, lag 1", x.correlation(1), -1000000);
        due("three ticks, lag 2", x.correlation(2), 0);
        x.run(1);
        due("four ticks, lag 0", x.correlation(0), 3000000);
        due("four ticks, lag 1", x.correlation(1), -2000000);
        due("four ticks, lag 2", x.correlation(2), 1000000);
    }

    private static void inWindow(int step, int dead, int lag, int first, int last) {
        DeadTimeLoop x = stepAt(step, 3, dead);
        runTo(x, first - 1);
        due("before the step of m, time " + (first - 1), x.correlation(lag), 0);
        x.run(1);
        due("the step of m in the latest tick", x.correlation(lag), 9);
        runTo(x, last - 1);
        due("31 ticks, time " + (last - 1), x.correlation(lag), 9);
        x.run(1);
        due("32 ticks, time " + last, x.correlation(lag), 9);
        for (int other = 0; other <= 30; other++) {
            due("lag " + other + ", time " + last, x.correlation(other), other == lag ? 9 : 0);
        }
        x.run(1);
        due("33 ticks, time " + (last + 1), x.correlation(lag), 0);
    }

    /** "over the 32 latest ticks t (fewer, if there were not so many)" */
    private static void window() {
        inWindow(0, 0, 0, 2, 33);
        inWindow(0, 50, 5, 7, 38);
        DeadTimeLoop x = alternating(31);
        due("30 changes of m in 31 ticks", x.correlation(0), 30000000);
        x.run(1);
        due("31 changes of m in 32 ticks", x.correlation(0), 31000000);
        x.run(1);
        due("32 changes of m in 33 ticks", x.correlation(0), 32000000);
        x.run(1);
        due("33 changes of m in 34 ticks", x.correlation(0), 32000000);
    }

    private static void windowOfTheGreatestLag() {
        inWindow(0, 300, 30, 32, 63);
        inWindow(0, 290, 29, 31, 62);
        DeadTimeLoop x = alternating(31);
        due("31 ticks, lag 30", x.correlation(30), 0);
        x.run(1);
        due("32 ticks, lag 30", x.correlation(30), 1000000);
    }

    /** The oldest output that is asked for stands in the oldest of the 64 records. */
    private static void windowBehindAWrapAround() {
        inWindow(39, 300, 30, 71, 102);
        inWindow(40, 300, 30, 72, 103);
        inWindow(170, 300, 30, 202, 233);
        inWindow(170, 0, 0, 172, 203);
    }

    private static void fullWindow() {
        DeadTimeLoop x = alternating(100);
        for (int lag = 0; lag <= 30; lag++) {
            due("32 ticks, lag " + lag, x.correlation(lag), lag % 2 == 0 ? 32000000 : -32000000);
        }
        x = alternating(62);
        due("62 ticks, lag 30", x.correlation(30), 31000000);
        x.run(1);
        due("63 ticks, lag 30", x.correlation(30), 32000000);
        x.run(1);
        due("64 ticks, lag 30", x.correlation(30), 32000000);
    }

    /** "times -1 if mgain is below 0" */
    private static void signOfTheModel() {
        DeadTimeLoop x = alternating(3);
        int[] gains = {-5000, -1, 0, 1, 5000};
        int[] signs = {-1, -1, 1, 1, 1};
        for (int n = 0; n < gains.length; n++) {
            x.setParameter(5, gains[n]);
            due("correlation(0), mgain " + gains[n], x.correlation(0), signs[n] * 2000000);
            due("correlation(1), mgain " + gains[n], x.correlation(1), signs[n] * -1000000);
            due("correlation(9), mgain " + gains[n], x.correlation(9), 0);
            due("estimatedLag(), mgain " + gains[n], x.estimatedLag(), signs[n] < 0 ? 1 : 0);
        }
    }

    private static void correlationsBeyondTheInts() {
        DeadTimeLoop x = with("ki=0;gain=5000;lag=0;dead=0;mgain=0;kp=20000;umin=-100000;");
        x.setParameter(10, 100000);
        x.setSetpoint(100000);
        x.run(50);
        due("correlation(0)", x.correlation(0), 32L * 200000 * 1000000);
        x.setParameter(5, -1);
        due("correlation(0), mgain -1", x.correlation(0), -32L * 200000 * 1000000);
        due("the estimated lag of great correlations", x.estimatedLag(), 1);
    }

    /** "lag: 0 to 30" */
    private static void lagRange() {
        DeadTimeLoop x = alternating(40);
        due("correlation(-1)", x.correlation(-1), INVALID);
        due("correlation(0)", x.correlation(0), 32000000);
        due("correlation(30)", x.correlation(30), 9000000);
        due("correlation(31)", x.correlation(31), INVALID);
    }

    /** "there is none if the greatest correlation is not above 0" */
    private static void noEstimatedLag() {
        DeadTimeLoop x = alternating(0);
        due("no tick", x.estimatedLag(), NOT_FOUND);
        x.run(1);
        due("all are 0", x.estimatedLag(), NOT_FOUND);
        x.run(1);
        due("one is above 0", x.estimatedLag(), 0);
        x.setParameter(5, -1);
        due("one is below 0, the others are 0", x.estimatedLag(), NOT_FOUND);
    }

    private static void leastEstimate() {
        DeadTimeLoop x = stepAt(0, 1, 20);
        x.run(3);
        due("before m has moved", x.estimatedLag(), NOT_FOUND);
        x.run(1);
        due("its correlation", x.correlation(2), 1);
        due("a correlation of 1", x.estimatedLag(), 2);
        due("is enough for tuneDelay()", x.tuneDelay(), 20);
    }

    /** "of several the lowest one" */
    private static void lowestOfSeveral() {
        DeadTimeLoop x = stepAt(0, 2, 55);
        x.run(20);
        due("correlation(5)", x.correlation(5), 2);
        due("correlation(6)", x.correlation(6), 2);
        due("the lower one", x.estimatedLag(), 5);
        x = stepAt(0, 3, 55);
        x.run(20);
        due("correlation(5)", x.correlation(5), 3);
        due("correlation(6)", x.correlation(6), 6);
        due("the greater one", x.estimatedLag(), 6);
        x = alternating(100);
        due("the lowest of sixteen", x.estimatedLag(), 0);
        x.setParameter(5, -1);
        due("the lowest of fifteen", x.estimatedLag(), 1);
    }

    private static void lagsAtBothEnds() {
        for (int lag : new int[] {0, 1, 29, 30}) {
            DeadTimeLoop x = stepAt(0, 3, 10 * lag);
            x.run(lag + 2);
            due("estimatedLag()", x.estimatedLag(), lag);
            due("tuneDelay()", x.tuneDelay(), 10 * lag);
            due("mdead", x.parameter(7), 10 * lag);
        }
    }

    /** "NOT_POSSIBLE if there is no estimated lag" */
    private static void tuneDelayWithoutALag() {
        DeadTimeLoop x = alternating(0);
        due("no tick", x.tuneDelay(), NOT_POSSIBLE);
        x.run(1);
        due("all are 0", x.tuneDelay(), NOT_POSSIBLE);
        x.run(1);
        x.setParameter(5, -1);
        due("none is above 0", x.tuneDelay(), NOT_POSSIBLE);
        due("mdead stays", x.parameter(7), 50);
        due("the one change is mgain's", x.undo(), 1);
    }

    private static void tunes(int dead, int[] setpoints, int[] ticks, long greatest, int due) {
        DeadTimeLoop x = open("dead=" + dead + ";");
        for (int n = 0; n < setpoints.length; n++) {
            x.setSetpoint(setpoints[n]);
            x.run(ticks[n]);
        }
        x.run(12);
        String label = "dead " + dead + ", greatest correlation " + greatest;
        due(label, x.correlation(x.estimatedLag()), greatest);
        due(label + ": tuneDelay()", x.tuneDelay(), due);
        due(label + ": mdead", x.parameter(7), due > 0 ? due : 50);
    }

    /** "or its correlation is less than twice the second greatest one" */
    private static void tuneDelayAgainstTheSecond() {
        tunes(62, new int[] {2, 3}, new int[] {5, 3}, 3, NOT_POSSIBLE);
        tunes(72, new int[] {1, 2}, new int[] {1, 2}, 2, 80);
        tunes(47, new int[] {1, 2, 1, 2}, new int[] {5, 2, 4, 4}, 3, 50);
        tunes(18, new int[] {3, 6, 7, 6}, new int[] {1, 3, 4, 3}, 19, NOT_POSSIBLE);
        tunes(56, new int[] {2, 1, 7}, new int[] {2, 1, 3}, 26, 60);
        tunes(44, new int[] {1, 6, 6, 2, 6}, new int[] {2, 4, 2, 1, 1}, 31, 40);
        DeadTimeLoop x = alternating(100);
        due("sixteen equal ones", x.tuneDelay(), NOT_POSSIBLE);
    }

    /** "(that of all other lags)": lower ones and higher ones. */
    private static void secondOnBothSides() {
        tunes(4, new int[] {3}, new int[] {1}, 6, 10);
        tunes(4, new int[] {5}, new int[] {1}, 15, NOT_POSSIBLE);
        tunes(5, new int[] {5}, new int[] {1}, 15, NOT_POSSIBLE);
        tunes(12, new int[] {3}, new int[] {1}, 6, 10);
        tunes(55, new int[] {2}, new int[] {1}, 2 * 1, NOT_POSSIBLE);
        DeadTimeLoop x = alternating(3);
        due("all others are 0 or below it", x.tuneDelay(), 0);
        due("mdead", x.parameter(7), 0);
    }

    /** "Sets mdead to 10 times the estimated lag. This is a change of parameters." */
    private static void tuneDelayIsAChange() {
        DeadTimeLoop x = stepAt(0, 300, 130);
        x.run(20);
        due("tuneDelay()", x.tuneDelay(), 130);
        due("mdead", x.parameter(7), 130);
        due("dead stays", x.parameter(4), 130);
        due("to the same value", x.tuneDelay(), 130);
        due("undo()", x.undo(), 2);
        due("mdead", x.parameter(7), 130);
        due("undo()", x.undo(), 1);
        due("mdead", x.parameter(7), 50);
        for (int n = 0; n < 6; n++) {
            x.tuneDelay();
        }
        due("six tuneDelay() can be undone", x.undo(), 5);
    }
}
