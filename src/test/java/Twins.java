/**
 * Compares two loops by all that can be asked of them. The parts change the loops, so each part
 * wants two of its own; a part stays far below the 512 calls of an object's life.
 */
final class Twins {
    static final int PARTS = 3;

    private final String label;
    private final DeadTimeLoop x;
    private final DeadTimeLoop y;

    private Twins(String label, DeadTimeLoop x, DeadTimeLoop y) {
        this.label = label;
        this.x = x;
        this.y = y;
    }

    static void compare(String label, int part, DeadTimeLoop x, DeadTimeLoop y) {
        Twins twins = new Twins(label, x, y);
        switch (part) {
            case 0:
                twins.present();
                break;
            case 1:
                twins.future(12);
                break;
            default:
                twins.past();
                break;
        }
    }

    /** The next ticks, and what has been counted up to now. */
    static void goOnAlike(String label, DeadTimeLoop x, DeadTimeLoop y, int ticks) {
        new Twins(label, x, y).future(ticks);
    }

    private void same(String call, long got, long want) {
        Check.due(label + ": " + call, got, want);
    }

    private void present() {
        state();
        for (int signal = 0; signal < 10; signal++) {
            for (int ago = 1; ago < 64; ago += 13) {
                same("recorded(" + signal + ", " + ago + ")", x.recorded(signal, ago),
                    y.recorded(signal, ago));
            }
        }
        for (int lag = 0; lag <= 30; lag++) {
            same("correlation(" + lag + ")", x.correlation(lag), y.correlation(lag));
        }
        same("estimatedLag()", x.estimatedLag(), y.estimatedLag());
        same("idealDifference(9)", x.idealDifference(9), y.idealDifference(9));
        parameters();
        same("fault()", x.fault(), y.fault());
        same("assigned()", x.assigned(), y.assigned());
        for (int index = 0; index < 3; index++) {
            same("assignedAt(" + index + ")", x.assignedAt(index), y.assignedAt(index));
        }
    }

    /** The counts of good and bad ticks show themselves only later, in the mode. */
    private void future(int ticks) {
        for (int tick = 0; tick < ticks; tick++) {
            same("run(1)", x.run(1), y.run(1));
            for (int signal = 0; signal < 10; signal++) {
                same("value(" + signal + ") later", x.value(signal), y.value(signal));
            }
            for (int what = 0; what < 4; what++) {
                same("measure(" + what + ") later", x.measure(what), y.measure(what));
            }
        }
        same("the setpoint", x.setSetpoint(0), y.setSetpoint(0));
        same("the load", x.setLoad(0), y.setLoad(0));
        same("the seed", x.setSeed(0), y.setSeed(0));
    }

    private void past() {
        same("apply()", x.apply(), y.apply());
        parameters();
        same("type(61)", x.type('='), y.type('='));
        same("clearText()", x.clearText(), y.clearText());
        for (int left = y.undo(); left >= 0; left = y.undo()) {
            same("undo()", x.undo(), left);
            parameters();
        }
        same("undo() at last", x.undo(), -2000000002);
        for (int left = y.recall(); left >= 0; left = y.recall()) {
            same("recall()", x.recall(), left);
            state();
        }
        same("recall() at last", x.recall(), -2000000002);
    }

    private void state() {
        same("time()", x.time(), y.time());
        for (int signal = 0; signal < 10; signal++) {
            same("value(" + signal + ")", x.value(signal), y.value(signal));
            same("recorded(" + signal + ", 0)", x.recorded(signal, 0), y.recorded(signal, 0));
        }
        for (int what = 0; what < 4; what++) {
            same("measure(" + what + ")", x.measure(what), y.measure(what));
        }
        same("settledTicks(99)", x.settledTicks(99), y.settledTicks(99));
        for (int index = 0; index < 5; index++) {
            same("watchedAt(" + index + ")", x.watchedAt(index), y.watchedAt(index));
        }
        for (int signal = 0; signal < 10; signal++) {
            for (int what = 0; what < 3; what++) {
                same("extreme(" + signal + ", " + what + ")", x.extreme(signal, what),
                    y.extreme(signal, what));
            }
        }
    }

    private void parameters() {
        for (int parameter = 0; parameter < 15; parameter++) {
            same("parameter(" + parameter + ")", x.parameter(parameter), y.parameter(parameter));
        }
    }
}
