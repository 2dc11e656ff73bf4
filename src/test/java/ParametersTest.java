/** The sentences of "Parameters" and "Changes and errors", and promises 1 to 8. */
public final class ParametersTest extends Bench {
    private ParametersTest() {
    }

    public static void main(String[] args) {
        newObject();
        levelsInTheBeginning();
        objectsShareNothing();
        lastPromisedCall();
        rangesOfParameters();
        previousValue();
        names();
        endsOfNames();
        setpointRange();
        setpointBeginsSection();
        loadRange();
        seedRange();
        undoOfNothing();
        undoOfOne();
        undoOfSix();
        undoOfSeven();
        undoLosesTheOldestAgain();
        refusedCallsAreNoChanges();
        sameValueIsAChange();
        changeBehindAnUndo();
        undoRestoresAllParameters();
        undoRestoresNothingElse();
        Check.end();
    }

    /** "Creates a loop at time 0 with the initial parameters." */
    private static void newObject() {
        DeadTimeLoop x = new DeadTimeLoop();
        due("time() of a new object", x.time(), 0);
        parametersAre("a new object", x, INITIAL);
        for (int signal = 0; signal < 10; signal++) {
            due("value(" + signal + ") of a new object", x.value(signal), 0);
            due("recorded(" + signal + ", 0)", x.recorded(signal, 0), NOT_FOUND);
        }
        due("undo() of a new object", x.undo(), NOT_POSSIBLE);
        due("recall() of a new object", x.recall(), NOT_POSSIBLE);
        due("watchedAt(0) of a new object", x.watchedAt(0), NOT_FOUND);
        due("clearText() of a new object", x.clearText(), 0);
    }

    /** "a setpoint r (.. initially 0), a load (.. initially 0) and a noise seed (.. initially 0)" */
    private static void levelsInTheBeginning() {
        DeadTimeLoop x = new DeadTimeLoop();
        due("the first setpoint", x.setSetpoint(5), 0);
        due("the first load", x.setLoad(6), 0);
        due("the first seed", x.setSeed(7), 0);
    }

    private static void objectsShareNothing() {
        DeadTimeLoop x = busy();
        Twins.compare("a loop beside a busy one", 0, new DeadTimeLoop(), new DeadTimeLoop());
        due("the parameter of the busy one", x.parameter(0), 1100);
        due("the parameter of a new one", new DeadTimeLoop().parameter(0), 1000);
    }

    /** "An object is used for at most 512 calls": the last of them is answered as the first. */
    private static void lastPromisedCall() {
        DeadTimeLoop x = new DeadTimeLoop();
        for (int call = 1; call <= 511; call++) {
            due("setParameter, call " + call, x.setParameter(0, call), call == 1 ? 1000 : call - 1);
        }
        due("undo(), call 512", x.undo(), 5);
        x = new DeadTimeLoop();
        for (int call = 1; call <= 511; call++) {
            due("run, call " + call, x.run(1), call);
        }
        due("time(), call 512", x.time(), 511);
    }

    /** "There are 15 parameters with numbers, names, ranges, and initial values" */
    private static void rangesOfParameters() {
        for (int p = 0; p < 15; p++) {
            String label = "parameter " + NAMES[p] + ": ";
            int least = RANGES[p][0];
            int greatest = RANGES[p][1];
            DeadTimeLoop x = new DeadTimeLoop();
            due(label + "below the least", x.setParameter(p, least - 1), INVALID);
            due(label + "above the greatest", x.setParameter(p, greatest + 1), INVALID);
            due(label + "the initial value stays", x.parameter(p), INITIAL[p]);
            due(label + "the least", x.setParameter(p, least), INITIAL[p]);
            due(label + "it is set", x.parameter(p), least);
            due(label + "the greatest", x.setParameter(p, greatest), least);
            due(label + "it is set", x.parameter(p), greatest);
            due(label + "below the least", x.setParameter(p, least - 1), INVALID);
            due(label + "above the greatest", x.setParameter(p, greatest + 1), INVALID);
            due(label + "the greatest stays", x.parameter(p), greatest);
            for (int other = 0; other < 15; other++) {
                due(label + "the others stay", x.parameter(other),
                    other == p ? greatest : INITIAL[other]);
            }
        }
    }

    /** "Returns the previous value" */
    private static void previousValue() {
        DeadTimeLoop x = new DeadTimeLoop();
        due("setParameter(2, -5000)", x.setParameter(2, -5000), 1000);
        due("parameter(2)", x.parameter(2), -5000);
        due("setParameter(2, 8)", x.setParameter(2, 8), -5000);
        due("setParameter(14, 9)", x.setParameter(14, 9), 0);
        due("setParameter(14, 0)", x.setParameter(14, 0), 9);
    }

    /** "Returns the code of the character" */
    private static void names() {
        DeadTimeLoop x = new DeadTimeLoop();
        for (int p = 0; p < 15; p++) {
            for (int n = 0; n < NAMES[p].length(); n++) {
                due("nameAt(" + p + ", " + n + ")", x.nameAt(p, n), NAMES[p].charAt(n));
            }
        }
    }

    /** "NOT_FOUND if the name is not so long" */
    private static void endsOfNames() {
        DeadTimeLoop x = new DeadTimeLoop();
        int[] lengths = {2, 2, 4, 3, 4, 5, 4, 5, 6, 4, 4, 4, 5, 8, 5};
        for (int p = 0; p < 15; p++) {
            Check.holds("the last character of " + p, x.nameAt(p, lengths[p] - 1) > 0);
            due("behind the last of " + p, x.nameAt(p, lengths[p]), NOT_FOUND);
            due("far behind it", x.nameAt(p, Integer.MAX_VALUE), NOT_FOUND);
            due("before the first", x.nameAt(p, -1), INVALID);
        }
    }

    /** "a setpoint r (-100000 to 100000 ..)" */
    private static void setpointRange() {
        DeadTimeLoop x = new DeadTimeLoop();
        due("setSetpoint(100000)", x.setSetpoint(100000), 0);
        due("setSetpoint(100001)", x.setSetpoint(100001), INVALID);
        due("value(0)", x.value(R), 100000);
        due("setSetpoint(-100000)", x.setSetpoint(-100000), 100000);
        due("setSetpoint(-100001)", x.setSetpoint(-100001), INVALID);
        due("value(0)", x.value(R), -100000);
        x.run(1);
        due("the tick uses it", x.recorded(E, 0), -100000);
    }

    /** "Sets the setpoint; a new section begins." */
    private static void setpointBeginsSection() {
        DeadTimeLoop x = new DeadTimeLoop();
        x.setSetpoint(3);
        x.run(2);
        due("a refused one begins no section", x.setSetpoint(100001), INVALID);
        due("its ticks", x.measure(3), 2);
        x.setSetpoint(4);
        due("a new one begins a section", x.measure(3), 0);
        x.run(5);
        x.setSetpoint(4);
        due("the same one too", x.measure(3), 0);
    }

    /** "a load (-100000 to 100000 ..)" */
    private static void loadRange() {
        DeadTimeLoop x = loaded("");
        due("setLoad(100000)", x.setLoad(100000), 0);
        due("setLoad(100001)", x.setLoad(100001), INVALID);
        x.run(1);
        due("the load comes without dead time", x.value(Y), 100000);
        due("setLoad(-100000)", x.setLoad(-100000), 100000);
        due("setLoad(-100001)", x.setLoad(-100001), INVALID);
        x.run(1);
        due("the least load", x.value(Y), -100000);
        due("a load begins no section", x.measure(3), 2);
    }

    /** "a noise seed (0 to 9999 ..)" */
    private static void seedRange() {
        DeadTimeLoop x = new DeadTimeLoop();
        due("setSeed(9999)", x.setSeed(9999), 0);
        due("setSeed(10000)", x.setSeed(10000), INVALID);
        due("setSeed(-1)", x.setSeed(-1), INVALID);
        due("setSeed(0)", x.setSeed(0), 9999);
        due("setSeed(1)", x.setSeed(1), 0);
        due("a seed begins no section", x.run(2) + x.setSeed(2) + x.measure(3), 5);
    }

    /** Promise 5: "NOT_POSSIBLE if there is none" */
    private static void undoOfNothing() {
        DeadTimeLoop x = new DeadTimeLoop();
        due("undo()", x.undo(), NOT_POSSIBLE);
        parametersAre("behind it", x, INITIAL);
        due("undo() again", x.undo(), NOT_POSSIBLE);
    }

    private static void undoOfOne() {
        DeadTimeLoop x = new DeadTimeLoop();
        x.setParameter(4, 7);
        due("undo() of the only change", x.undo(), 0);
        due("dead", x.parameter(4), 50);
        due("undo() of none", x.undo(), NOT_POSSIBLE);
    }

    private static DeadTimeLoop changed(int times) {
        DeadTimeLoop x = new DeadTimeLoop();
        for (int n = 1; n <= times; n++) {
            x.setParameter(0, n);
        }
        return x;
    }

    /** "the last 6 changes can be undone": six, all of them. */
    private static void undoOfSix() {
        DeadTimeLoop x = changed(6);
        for (int left = 5; left >= 0; left--) {
            due("undo() of six changes", x.undo(), left);
            due("kp behind it", x.parameter(0), left == 0 ? 1000 : left);
        }
        due("the seventh undo()", x.undo(), NOT_POSSIBLE);
        due("kp stays", x.parameter(0), 1000);
    }

    /** "the last 6 changes can be undone": the first of seven can't. */
    private static void undoOfSeven() {
        DeadTimeLoop x = changed(7);
        for (int left = 5; left >= 0; left--) {
            due("undo() of seven changes", x.undo(), left);
            due("kp behind it", x.parameter(0), left + 1);
        }
        due("the seventh undo()", x.undo(), NOT_POSSIBLE);
        due("kp stays", x.parameter(0), 1);
    }

    private static void undoLosesTheOldestAgain() {
        DeadTimeLoop x = changed(20);
        for (int left = 5; left >= 0; left--) {
            due("undo() of twenty changes", x.undo(), left);
            due("kp behind it", x.parameter(0), left + 14);
        }
        due("the seventh undo()", x.undo(), NOT_POSSIBLE);
    }

    /** "setParameter, apply and tuneDelay, if they do not return an error, are changes" */
    private static void refusedCallsAreNoChanges() {
        DeadTimeLoop x = new DeadTimeLoop();
        due("setParameter(0, -1)", x.setParameter(0, -1), INVALID);
        due("setParameter(15, 1)", x.setParameter(15, 1), INVALID);
        due("apply() of no text", x.apply(), NOT_POSSIBLE);
        write(x, "kp=5;kp");
        due("apply() with a fault", x.apply(), NOT_POSSIBLE);
        due("tuneDelay()", x.tuneDelay(), NOT_POSSIBLE);
        due("none can be undone", x.undo(), NOT_POSSIBLE);
    }

    private static void sameValueIsAChange() {
        DeadTimeLoop x = new DeadTimeLoop();
        due("setParameter(0, 1000)", x.setParameter(0, 1000), 1000);
        due("setParameter(0, 1000)", x.setParameter(0, 1000), 1000);
        due("undo()", x.undo(), 1);
        due("undo()", x.undo(), 0);
        due("undo()", x.undo(), NOT_POSSIBLE);
    }

    /** "Undoes the latest change of parameters that has not been undone." */
    private static void changeBehindAnUndo() {
        DeadTimeLoop x = changed(2);
        due("undo()", x.undo(), 1);
        x.setParameter(1, 12);
        due("undo() of the change behind the undo()", x.undo(), 1);
        due("ki", x.parameter(1), 100);
        due("kp", x.parameter(0), 1);
        due("undo() of the change before the undone one", x.undo(), 0);
        due("kp", x.parameter(0), 1000);
        due("undo() is no change", x.undo(), NOT_POSSIBLE);
        x = changed(6);
        x.undo();
        x.setParameter(0, 66);
        due("six can be undone again", x.undo(), 5);
        due("kp", x.parameter(0), 5);
    }

    /** "(Undoing restores all 15 parameters ..)" */
    private static void undoRestoresAllParameters() {
        DeadTimeLoop x = with("kp=1;ki=2;gain=3;lag=4;dead=5;mgain=6;mlag=7;mdead=8;filter=9;");
        write(x, "umin=-10;umax=11;rate=12;limit=13;patience=14;noise=15;");
        due("apply()", x.apply(), 6);
        parametersAre("all", x, new int[] {1, 2, 3, 4, 5, 6, 7, 8, 9, -10, 11, 12, 13, 14, 15});
        due("undo()", x.undo(), 1);
        parametersAre("behind one undo()", x, new int[] {1, 2, 3, 4, 5, 6, 7, 8, 9, -50000, 50000,
            200000, 5000, 5, 0});
        due("undo()", x.undo(), 0);
        parametersAre("behind both", x, INITIAL);
    }

    /** "(Undoing restores all 15 parameters, and nothing else.)" */
    private static void undoRestoresNothingElse() {
        for (int part = 0; part < Twins.PARTS; part++) {
            DeadTimeLoop x = busy();
            x.setParameter(0, 1);
            x.undo();
            DeadTimeLoop y = busy();
            Twins.compare("a change and its undo()", part, x, y);
        }
        DeadTimeLoop x = busy();
        int u = x.value(U);
        due("undo()", x.undo(), 2);
        due("undo()", x.undo(), 1);
        due("undo()", x.undo(), 0);
        parametersAre("behind all", x, INITIAL);
        due("the setpoint stays", x.setSetpoint(0), -200);
        due("the load stays", x.setLoad(0), -40);
        due("the seed stays", x.setSeed(0), 11);
        due("the output stays", x.value(U), u);
        due("the time stays", x.time(), 89);
        due("the watched signals stay", x.watchedAt(2), 8);
        due("the text stays", x.clearText(), 15);
        due("the stored state stays", x.recall(), 0);
    }
}
