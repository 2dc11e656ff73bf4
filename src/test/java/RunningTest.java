/** Promises 15 to 19: ticks are made, their values asked for, and all begins anew. */
public final class RunningTest extends Bench {
    private RunningTest() {
    }

    public static void main(String[] args) {
        numberOfTicks();
        endOfTime();
        questionsTakeNoTime();
        valuesBeforeAndBehindATick();
        recordsOfFewTicks();
        recordsOf64Ticks();
        restartOfALoop();
        restartOfANewLoop();
        restartForgetsBadTicks();
        restartKeepsWhatStays();
        Check.end();
    }

    /** "ticks: 1 to 500", "Returns the new time" */
    private static void numberOfTicks() {
        DeadTimeLoop x = new DeadTimeLoop();
        due("run(0)", x.run(0), INVALID);
        due("run(501)", x.run(501), INVALID);
        due("no tick is made by them", x.time(), 0);
        due("run(1)", x.run(1), 1);
        due("run(500)", x.run(500), 501);
        due("run(499)", x.run(499), 1000);
        due("time()", x.time(), 1000);
        due("ticks of the section", x.measure(3), 1000);
    }

    /** "CAPACITY_EXCEEDED if the time would be greater than 100000" */
    private static void endOfTime() {
        DeadTimeLoop x = new DeadTimeLoop();
        runTo(x, 99500);
        x.store();
        due("run(500) at 99500", x.run(500), 100000);
        due("run(1) at 100000", x.run(1), CAPACITY);
        due("run(500) at 100000", x.run(500), CAPACITY);
        due("run(0) at 100000", x.run(0), INVALID);
        x.recall();
        due("run(1) at 99500", x.run(1), 99501);
        due("run(500) at 99501", x.run(500), CAPACITY);
        due("no tick is made by it", x.time(), 99501);
        due("run(498) at 99501", x.run(498), 99999);
        due("run(2) at 99999", x.run(2), CAPACITY);
        due("run(1) at 99999", x.run(1), 100000);
        due("restart()", x.restart(), 100000);
        due("run(500) behind it", x.run(500), 500);
    }

    private static void questionsTakeNoTime() {
        DeadTimeLoop x = new DeadTimeLoop();
        due("time()", x.time(), 0);
        x.run(12);
        x.ahead(5, 0);
        x.bestGain(5);
        x.idealDifference(5);
        due("time()", x.time(), 12);
    }

    private static void valuesAre(String label, DeadTimeLoop x, int... values) {
        for (int signal = 0; signal < 10; signal++) {
            due(label + ": value(" + signal + ")", x.value(signal), values[signal]);
        }
    }

    /** "y, x and the mode as they are for the next tick, r as it is set, all others .. latest" */
    private static void valuesBeforeAndBehindATick() {
        DeadTimeLoop x = with("kp=1000;ki=500;dead=0;lag=0;mlag=0;mdead=0;mgain=900;filter=0;");
        valuesAre("before the first tick", x, 0, 0, 0, 0, 0, 0, 0, 0, 0, 0);
        x.setSetpoint(10);
        valuesAre("r is set", x, 10, 0, 0, 0, 0, 0, 0, 0, 0, 0);
        x.run(1);
        x.setSetpoint(20);
        x.setLoad(7);
        valuesAre("behind one tick", x, 20, 0, 15, 13, 0, 0, 10, 5, 15, 0);
        x.run(1);
        valuesAre("behind two", x, 20, 15, 12, 10, 13, 2, 5, 7, 19, 0);
    }

    /** "NOT_FOUND if there have not been so many ticks" */
    private static void recordsOfFewTicks() {
        DeadTimeLoop x = new DeadTimeLoop();
        for (int ticks = 0; ticks <= 64; ticks++) {
            for (int signal = 0; signal < 10; signal += 3) {
                if (ticks > 0) {
                    Check.holds("recorded(" + signal + ", " + (ticks - 1) + ") of " + ticks,
                        x.recorded(signal, ticks - 1) >= 0);
                }
                due("recorded(" + signal + ", " + ticks + ") of " + ticks,
                    x.recorded(signal, ticks), ticks < 64 ? NOT_FOUND : INVALID);
            }
            if (ticks < 20) {
                due("recorded(0, 63) of " + ticks, x.recorded(0, 63), NOT_FOUND);
            }
            x.run(1);
        }
    }

    /** "The records of the latest 64 ticks are kept": all of them, behind each wrap-around. */
    private static void recordsOf64Ticks() {
        for (int ticks : new int[] {63, 64, 65, 127, 128, 129, 200}) {
            DeadTimeLoop x = new DeadTimeLoop();
            for (int n = 1; n <= ticks; n++) {
                setAndRun(x, 10 * n);
            }
            for (int ago = 0; ago < 64; ago++) {
                due("recorded(0, " + ago + ") of " + ticks, x.recorded(0, ago),
                    ago < ticks ? 10 * (ticks - ago) : NOT_FOUND);
            }
            due("recorded(0, 64) of " + ticks, x.recorded(0, 64), INVALID);
        }
        DeadTimeLoop x = new DeadTimeLoop();
        x.run(70);
        setAndRun(x, 9);
        x.setSetpoint(0);
        x.run(500);
        due("a long run", x.recorded(0, 63), 0);
    }

    /** "Starts anew at time 0: all signals and records are as initially, .. are 0, .. are lost." */
    private static void restartOfALoop() {
        String parameters = "limit=60;patience=3;noise=70;mdead=20;filter=300;kp=1100;ki=90;";
        for (int ticks = 0; ticks < 4; ticks++) {
            for (int part = 0; part < 2; part++) {
                DeadTimeLoop x = busy();
                x.run(1 + ticks);
                due("restart()", x.restart(), 90 + ticks);
                x.clearText();
                Twins.compare("behind restart()", part, x, with(parameters));
            }
        }
        DeadTimeLoop x = full();
        due("restart() of a full loop", x.restart(), 13);
        due("time()", x.time(), 0);
        due("recorded(1, 0)", x.recorded(1, 0), NOT_FOUND);
        due("watchedAt(0)", x.watchedAt(0), NOT_FOUND);
        due("recall()", x.recall(), NOT_POSSIBLE);
        due("store()", x.store(), 1);
        due("watch(0)", x.watch(0), 1);
        due("the section begins at time 0", x.measure(3), 0);
        due("the setpoint", x.setSetpoint(0), 0);
    }

    private static void restartOfANewLoop() {
        DeadTimeLoop x = new DeadTimeLoop();
        due("restart()", x.restart(), 0);
        due("restart()", x.restart(), 0);
        Twins.compare("behind restart()", 0, x, new DeadTimeLoop());
    }

    /** The noise of the first ticks is -9 and 8, so a bad tick counted before would be seen. */
    private static void restartForgetsBadTicks() {
        DeadTimeLoop x = loaded("noise=10;limit=6;patience=2;");
        x.run(1);
        due("restart()", x.restart(), 1);
        x.run(1);
        due("the first bad tick", x.value(MODE), 0);
        x.run(1);
        due("the second bad tick", x.value(MODE), 1);
        x.restart();
        due("the mode behind restart()", x.value(MODE), 0);
        x.run(1);
        due("the first bad tick", x.value(MODE), 0);
    }

    /** "Parameters, what can be undone, and the text stay." */
    private static void restartKeepsWhatStays() {
        DeadTimeLoop x = busy();
        x.restart();
        due("kp", x.parameter(0), 1100);
        due("the text", x.assigned(), 2);
        due("undo()", x.undo(), 2);
        due("undo()", x.undo(), 1);
        due("undo()", x.undo(), 0);
        parametersAre("behind all", x, INITIAL);
        due("length of the text", x.clearText(), 15);
    }
}
