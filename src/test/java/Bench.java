/**
 * What the tests of the document's sentences share: its tables, short ways to a loop in some
 * state, and the proof that a refused call has changed nothing.
 */
abstract class Bench {
    static final int INVALID = -2000000001;
    static final int NOT_POSSIBLE = -2000000002;
    static final int CAPACITY = -2000000003;
    static final int NOT_FOUND = -2000000004;

    static final int R = 0;
    static final int M = 1;
    static final int U = 2;
    static final int X = 3;
    static final int P = 4;
    static final int F = 5;
    static final int E = 6;
    static final int I = 7;
    static final int Y = 8;
    static final int MODE = 9;

    static final String[] NAMES = {"kp", "ki", "gain", "lag", "dead", "mgain", "mlag",
        "mdead", "filter", "umin", "umax", "rate", "limit", "patience", "noise"};
    static final int[][] RANGES = {{0, 20000}, {0, 20000}, {-5000, 5000}, {0, 999},
        {0, 300}, {-5000, 5000}, {0, 999}, {0, 300}, {0, 999}, {-100000, 0}, {0, 100000},
        {1, 200000}, {0, 100000}, {1, 50}, {0, 1000}};
    static final int[] INITIAL = {1000, 100, 1000, 800, 50, 1000, 800, 50, 0, -50000,
        50000, 200000, 5000, 5, 0};

    /** Makes a loop in some state, the same state each time. */
    interface Maker {
        DeadTimeLoop make();
    }

    interface Call {
        long on(DeadTimeLoop x);
    }

    static void due(String call, long got, long want) {
        Check.due(call, got, want);
    }

    /** A loop whose parameters are set by a text, as in "kp=500;ki=0;": one change. */
    static DeadTimeLoop with(String assignments) {
        DeadTimeLoop x = new DeadTimeLoop();
        write(x, assignments);
        Check.holds("apply of " + assignments, x.apply() > 0);
        x.clearText();
        return x;
    }

    static void write(DeadTimeLoop x, String text) {
        for (int n = 0; n < text.length(); n++) {
            x.type(text.charAt(n));
        }
    }

    /** The controller does nothing and the process follows at once: m is the load of the tick before. */
    static DeadTimeLoop loaded(String more) {
        return with("kp=0;ki=0;lag=0;" + more);
    }

    /** Neither process nor model answers: the error is the setpoint, and u is made of it alone. */
    static DeadTimeLoop silent(String more) {
        return with("ki=0;gain=0;mgain=0;" + more);
    }

    /** For setpoints 0 to 999 u is the setpoint: f makes no step as long as m is below 1000. */
    static DeadTimeLoop open(String more) {
        return with("ki=0;lag=0;mgain=0;filter=999;" + more);
    }

    static void loadAndRun(DeadTimeLoop x, int load) {
        x.setLoad(load);
        x.run(1);
    }

    static void setAndRun(DeadTimeLoop x, int setpoint) {
        x.setSetpoint(setpoint);
        x.run(1);
    }

    static void runTo(DeadTimeLoop x, int time) {
        while (x.time() + 500 <= time) {
            x.run(500);
        }
        if (x.time() < time) {
            x.run(time - x.time());
        }
    }

    /** Makes ticks and compares what they record of a signal. */
    static void sees(String label, DeadTimeLoop x, int signal, int... values) {
        for (int n = 0; n < values.length; n++) {
            x.run(1);
            due(label + ", tick " + n, x.recorded(signal, 0), values[n]);
        }
    }

    static void parametersAre(String label, DeadTimeLoop x, int[] values) {
        for (int p = 0; p < 15; p++) {
            due(label + ": parameter(" + p + ")", x.parameter(p), values[p]);
        }
    }

    /** A loop in which much has happened and room is left everywhere. */
    static DeadTimeLoop busy() {
        DeadTimeLoop x = with("limit=60;patience=3;noise=70;mdead=20;filter=300;");
        x.setParameter(0, 1100);
        x.setParameter(1, 90);
        write(x, "kp=5;ki=6;kp=7;");
        x.setSetpoint(300);
        x.setSeed(11);
        x.watch(1);
        x.run(20);
        x.store();
        x.setLoad(-40);
        x.watch(9);
        x.watch(8);
        x.run(58);
        x.setSetpoint(-200);
        x.run(11);
        return x;
    }

    /** All that has a limit has reached it, and the text has a fault; the time goes on. */
    static DeadTimeLoop full() {
        DeadTimeLoop x = new DeadTimeLoop();
        for (int n = 0; n < 7; n++) {
            x.setParameter(n, INITIAL[n] + 1 + n);
        }
        for (int n = 0; n < 80; n++) {
            x.type('=');
        }
        x.setSetpoint(-700);
        x.store();
        x.run(9);
        x.store();
        x.run(3);
        for (int signal = 4; signal < 8; signal++) {
            x.watch(signal);
        }
        x.run(1);
        return x;
    }

    /** The call is refused in this state and leaves it as it was. */
    static void refused(String label, Maker maker, Call call, int error) {
        for (int part = 0; part < Twins.PARTS; part++) {
            DeadTimeLoop x = maker.make();
            due(label, call.on(x), error);
            Twins.compare("behind " + label, part, x, maker.make());
        }
    }

    /** INVALID_ARGUMENT comes before every other error, so the state does not matter. */
    static void invalid(String label, Call call) {
        refused(label + " of a new loop", DeadTimeLoop::new, call, INVALID);
        refused(label + " of a busy loop", Bench::busy, call, INVALID);
        refused(label + " of a full loop", Bench::full, call, INVALID);
    }

    static void valid(String label, Call call) {
        Check.holds(label + " of a new loop", call.on(new DeadTimeLoop()) != INVALID);
        Check.holds(label + " of a busy loop", call.on(busy()) != INVALID);
        Check.holds(label + " of a full loop", call.on(full()) != INVALID);
    }
}
