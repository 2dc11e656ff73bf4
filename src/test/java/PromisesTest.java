/**
 * A method for each promise of the document: ordinary inputs, the edges that it names, and wrong
 * inputs. The numbers are worked out by hand from the words of the document.
 */
public final class PromisesTest {
    private static final int INVALID = -2000000001;
    private static final int NOT_POSSIBLE = -2000000002;
    private static final int CAPACITY = -2000000003;
    private static final int NOT_FOUND = -2000000004;

    private static final String[] NAMES = {"kp", "ki", "gain", "lag", "dead", "mgain", "mlag",
        "mdead", "filter", "umin", "umax", "rate", "limit", "patience", "noise"};
    private static final int[][] RANGES = {{0, 20000}, {0, 20000}, {-5000, 5000}, {0, 999},
        {0, 300}, {-5000, 5000}, {0, 999}, {0, 300}, {0, 999}, {-100000, 0}, {0, 100000},
        {1, 200000}, {0, 100000}, {1, 50}, {0, 1000}};
    private static final int[] INITIAL = {1000, 100, 1000, 800, 50, 1000, 800, 50, 0, -50000,
        50000, 200000, 5000, 5, 0};
    private static final int[] WRONG = {-1, Integer.MIN_VALUE, Integer.MAX_VALUE};

    private PromisesTest() {
    }

    public static void main(String[] args) {
        examples();
        newObject();
        setParameter();
        parameter();
        nameAt();
        undo();
        setSetpoint();
        setLoad();
        setSeed();
        type();
        clearText();
        fault();
        apply();
        assigned();
        assignedAt();
        run();
        noiseOfATick();
        delayOfATick();
        stepsOfATick();
        modeOfATick();
        limitsOfATick();
        windupOfATick();
        time();
        value();
        recorded();
        restart();
        watch();
        unwatch();
        watchedAt();
        extreme();
        measure();
        settledTicks();
        store();
        recall();
        correlation();
        estimatedLag();
        tuneDelay();
        ahead();
        bestGain();
        idealDifference();
        Check.end();
    }

    private static void due(String call, long got, long want) {
        Check.due(call, got, want);
    }

    /** A loop whose parameters are set by a text, as in "kp=500;ki=0;". */
    private static DeadTimeLoop with(String assignments) {
        DeadTimeLoop x = new DeadTimeLoop();
        write(x, assignments);
        due("apply of " + assignments, x.apply() > 0 ? 1 : 0, 1);
        x.clearText();
        return x;
    }

    private static void write(DeadTimeLoop x, String text) {
        for (int n = 0; n < text.length(); n++) {
            x.type(text.charAt(n));
        }
    }

    private static void sees(String label, DeadTimeLoop x, int signal, int... values) {
        for (int n = 0; n < values.length; n++) {
            x.run(1);
            due(label + ", tick " + n, x.recorded(signal, 0), values[n]);
        }
    }

    private static void parametersAre(String label, DeadTimeLoop x, int[] values) {
        for (int p = 0; p < 15; p++) {
            due(label + ": parameter(" + p + ")", x.parameter(p), values[p]);
        }
    }

    private static void examples() {
        DeadTimeLoop x = new DeadTimeLoop();
        due("setSetpoint(1000)", x.setSetpoint(1000), 0);
        due("run(1)", x.run(1), 1);
        due("value(2)", x.value(2), 1100);
        due("value(3)", x.value(3), 220);
        due("value(8)", x.value(8), 0);
        due("recorded(6, 0)", x.recorded(6, 0), 1000);
        due("measure(0)", x.measure(0), 1000);
        x = new DeadTimeLoop();
        x.setSetpoint(1000);
        due("run(7)", x.run(7), 7);
        due("value(8)", x.value(8), 367);
        due("recorded(4, 0)", x.recorded(4, 0), 220);
        due("idealDifference(50)", x.idealDifference(50), 0);
        x = new DeadTimeLoop();
        due("setParameter(7, 0)", x.setParameter(7, 0), 50);
        due("setParameter(12, 0)", x.setParameter(12, 0), 5000);
        due("setParameter(13, 1)", x.setParameter(13, 1), 5);
        x.setSetpoint(1000);
        due("run(2)", x.run(2), 2);
        due("value(9)", x.value(9), 1);
    }

    /** Promise 1. */
    private static void newObject() {
        DeadTimeLoop x = new DeadTimeLoop();
        due("time() of a new object", x.time(), 0);
        parametersAre("a new object", x, INITIAL);
        for (int signal = 0; signal < 10; signal++) {
            due("value(" + signal + ") of a new object", x.value(signal), 0);
        }
        due("setLoad of a new object", x.setLoad(0), 0);
        due("setSeed of a new object", x.setSeed(0), 0);
        due("clearText of a new object", x.clearText(), 0);
        due("two objects share nothing", x.setParameter(0, 7), 1000);
        due("two objects share nothing", new DeadTimeLoop().parameter(0), 1000);
    }

    /** Promise 2. */
    private static void setParameter() {
        DeadTimeLoop x = new DeadTimeLoop();
        for (int p = 0; p < 15; p++) {
            due("below the range of " + p, x.setParameter(p, RANGES[p][0] - 1), INVALID);
            due("above the range of " + p, x.setParameter(p, RANGES[p][1] + 1), INVALID);
            due("far below, " + p, x.setParameter(p, Integer.MIN_VALUE), INVALID);
            due("far above, " + p, x.setParameter(p, Integer.MAX_VALUE), INVALID);
        }
        parametersAre("behind wrong values", x, INITIAL);
        due("wrong values are no changes", x.undo(), NOT_POSSIBLE);
        for (int p = 0; p < 15; p++) {
            due("least of " + p, x.setParameter(p, RANGES[p][0]), INITIAL[p]);
            due("greatest of " + p, x.setParameter(p, RANGES[p][1]), RANGES[p][0]);
            due("parameter(" + p + ")", x.parameter(p), RANGES[p][1]);
        }
        due("setParameter(15, 0)", x.setParameter(15, 0), INVALID);
        for (int wrong : WRONG) {
            due("setParameter(" + wrong + ", 0)", x.setParameter(wrong, 0), INVALID);
        }
    }

    /** Promise 3. */
    private static void parameter() {
        DeadTimeLoop x = new DeadTimeLoop();
        x.setParameter(2, -5000);
        due("parameter(2)", x.parameter(2), -5000);
        due("parameter(15)", x.parameter(15), INVALID);
        for (int wrong : WRONG) {
            due("parameter(" + wrong + ")", x.parameter(wrong), INVALID);
        }
    }

    /** Promise 4. */
    private static void nameAt() {
        DeadTimeLoop x = new DeadTimeLoop();
        for (int p = 0; p < 15; p++) {
            for (int n = 0; n < NAMES[p].length(); n++) {
                due("nameAt(" + p + ", " + n + ")", x.nameAt(p, n), NAMES[p].charAt(n));
            }
            due("behind the name of " + p, x.nameAt(p, NAMES[p].length()), NOT_FOUND);
            due("far behind it", x.nameAt(p, Integer.MAX_VALUE), NOT_FOUND);
            due("before it", x.nameAt(p, -1), INVALID);
        }
        due("nameAt(15, 0)", x.nameAt(15, 0), INVALID);
        due("nameAt(-1, 0)", x.nameAt(-1, 0), INVALID);
        due("nameAt(15, 99)", x.nameAt(15, 99), INVALID);
    }

    /** Promise 5. */
    private static void undo() {
        DeadTimeLoop x = new DeadTimeLoop();
        due("nothing to undo", x.undo(), NOT_POSSIBLE);
        x.setParameter(0, 1000);
        due("a change to the same value", x.undo(), 0);
        for (int n = 1; n <= 8; n++) {
            x.setParameter(0, n);
        }
        for (int left = 5; left >= 0; left--) {
            due("undo of eight changes", x.undo(), left);
            due("the value behind it", x.parameter(0), 2 + left);
        }
        due("the first two can't be undone", x.undo(), NOT_POSSIBLE);
        due("the value stays", x.parameter(0), 2);
        x.setParameter(0, 10);
        x.setParameter(1, 11);
        due("undo", x.undo(), 1);
        x.setParameter(2, 12);
        due("a change behind an undo", x.undo(), 1);
        due("gain", x.parameter(2), 1000);
        due("undo", x.undo(), 0);
        due("kp", x.parameter(0), 2);
        undoChangesParametersAlone();
    }

    private static void undoChangesParametersAlone() {
        DeadTimeLoop x = new DeadTimeLoop();
        x.setParameter(0, 2000);
        x.setSetpoint(100);
        x.setLoad(50);
        x.setSeed(7);
        x.run(3);
        int u = x.value(2);
        x.undo();
        due("u behind undo", x.value(2), u);
        due("time behind undo", x.time(), 3);
        due("setpoint behind undo", x.setSetpoint(0), 100);
        due("load behind undo", x.setLoad(0), 50);
        due("seed behind undo", x.setSeed(0), 7);
    }

    /** Promise 6. */
    private static void setSetpoint() {
        DeadTimeLoop x = new DeadTimeLoop();
        due("setSetpoint(100000)", x.setSetpoint(100000), 0);
        due("setSetpoint(-100000)", x.setSetpoint(-100000), 100000);
        due("setSetpoint(100001)", x.setSetpoint(100001), INVALID);
        due("setSetpoint(-100001)", x.setSetpoint(-100001), INVALID);
        due("setSetpoint of the least int", x.setSetpoint(Integer.MIN_VALUE), INVALID);
        due("value(0)", x.value(0), -100000);
        x.run(2);
        due("a wrong one begins no section", x.setSetpoint(100001), INVALID);
        due("its ticks", x.measure(3), 2);
        due("the same value", x.setSetpoint(-100000), -100000);
        due("begins a section too", x.measure(3), 0);
    }

    /** Promise 7. */
    private static void setLoad() {
        DeadTimeLoop x = with("lag=0;kp=0;ki=0;");
        due("setLoad(100000)", x.setLoad(100000), 0);
        due("setLoad(-100000)", x.setLoad(-100000), 100000);
        due("setLoad(100001)", x.setLoad(100001), INVALID);
        due("setLoad(-100001)", x.setLoad(-100001), INVALID);
        x.run(1);
        due("the load comes without dead time", x.value(8), -100000);
        due("setLoad(3)", x.setLoad(3), -100000);
        due("no section begins", x.measure(3), 1);
        x.setParameter(2, -500);
        x.run(1);
        due("half of 3, downwards, turned round", x.value(8), -2);
    }

    /** Promise 8. */
    private static void setSeed() {
        DeadTimeLoop x = new DeadTimeLoop();
        due("setSeed(9999)", x.setSeed(9999), 0);
        due("setSeed(0)", x.setSeed(0), 9999);
        due("setSeed(10000)", x.setSeed(10000), INVALID);
        for (int wrong : WRONG) {
            due("setSeed(" + wrong + ")", x.setSeed(wrong), INVALID);
        }
        due("setSeed(1)", x.setSeed(1), 0);
    }

    /** Promise 9. */
    private static void type() {
        DeadTimeLoop x = new DeadTimeLoop();
        due("type(31)", x.type(31), INVALID);
        due("type(127)", x.type(127), INVALID);
        for (int wrong : WRONG) {
            due("type(" + wrong + ")", x.type(wrong), INVALID);
        }
        due("type(32)", x.type(32), 1);
        due("type(126)", x.type(126), 2);
        for (int n = 3; n <= 80; n++) {
            due("type(97)", x.type(97), n);
        }
        due("the 81st", x.type(97), CAPACITY);
        due("a wrong 81st", x.type(31), INVALID);
        due("80 characters stay", x.clearText(), 80);
        due("type(97) behind it", x.type(97), 1);
    }

    /** Promise 10. */
    private static void clearText() {
        DeadTimeLoop x = new DeadTimeLoop();
        write(x, "kp=x");
        due("clearText()", x.clearText(), 4);
        due("clearText() again", x.clearText(), 0);
        due("no fault is left", x.fault(), NOT_FOUND);
        write(x, "kp");
        due("nothing of the old text is left behind the new one", x.fault(), 0);
    }

    private static void faultOf(String text, int position) {
        DeadTimeLoop x = new DeadTimeLoop();
        write(x, text);
        due("fault() of " + text, x.fault(), position);
        due("length of " + text, x.clearText(), text.length());
    }

    /** Promise 11. */
    private static void fault() {
        faultOf("", NOT_FOUND);
        for (int p = 0; p < 15; p++) {
            faultOf(NAMES[p] + "=" + RANGES[p][0] + ";", NOT_FOUND);
            faultOf(NAMES[p] + "=" + RANGES[p][1] + ";", NOT_FOUND);
            faultOf("kp=1;" + NAMES[p] + "=" + (RANGES[p][0] - 1) + ";", 5);
            faultOf("kp=1;ki=22;" + NAMES[p] + "=" + (RANGES[p][1] + 1) + ";", 11);
            faultOf(NAMES[p].substring(1) + "=1;", NAMES[p].equals("mgain")
                || NAMES[p].equals("mlag") || NAMES[p].equals("mdead") ? NOT_FOUND : 0);
        }
        faultOf("kp=0000005;", NOT_FOUND);
        faultOf("kp=00000005;", 0);
        faultOf("kp=-0;", NOT_FOUND);
        faultOf("umin=-0000005;", NOT_FOUND);
        faultOf("umin=-00000005;", 0);
        faultOf("gain=--5;", 0);
        faultOf("gain=-;", 0);
        faultOf("gain=;", 0);
        faultOf("gain=+5;", 0);
        faultOf("gain=5", 0);
        faultOf("gain=5:", 0);
        faultOf("gain=5;;", 7);
        faultOf("gain=5; lag=5;", 7);
        faultOf(" gain=5;", 0);
        faultOf("gain =5;", 0);
        faultOf("gain:5;", 0);
        faultOf("Gain=5;", 0);
        faultOf("kpi=5;", 0);
        faultOf("k=5;", 0);
        faultOf("kp=5;k", 5);
        faultOf("kp=5;kp=6;kp=7;kp=8;kp=9;kp=1;kp=2;kp=3;kp=4;kp=5;kp=6;kp=7;kp=8;kp=9;kp=1;kp=2;",
            NOT_FOUND);
        faultOf("kp=5;kp=6;kp=7;kp=8;kp=9;kp=1;kp=2;kp=3;kp=4;kp=5;kp=6;kp=7;kp=8;kp=9;kp=1;kp=2:",
            75);
        faultOf("kp=9999999;", 0);
    }

    /** Promise 12. */
    private static void apply() {
        DeadTimeLoop x = new DeadTimeLoop();
        due("apply() of no text", x.apply(), NOT_POSSIBLE);
        write(x, "kp=500;mgain=-40;kp=700;umin=-0;");
        due("apply()", x.apply(), 4);
        due("the last one counts", x.parameter(0), 700);
        due("mgain", x.parameter(5), -40);
        due("umin", x.parameter(9), 0);
        due("the text stays", x.apply(), 4);
        write(x, "x");
        due("apply() with a fault", x.apply(), NOT_POSSIBLE);
        due("all are one change", x.undo(), 1);
        due("kp behind undo", x.parameter(0), 700);
        due("the first apply()", x.undo(), 0);
        parametersAre("behind undo of all", x, INITIAL);
        due("the text has stayed", x.clearText(), 33);
    }

    /** Promise 13. */
    private static void assigned() {
        DeadTimeLoop x = new DeadTimeLoop();
        due("assigned() of no text", x.assigned(), 0);
        write(x, "ki=1;kp=1;ki=2;noise=3;");
        due("assigned()", x.assigned(), 3);
        write(x, "kp");
        due("assigned() with a fault", x.assigned(), NOT_POSSIBLE);
        parametersAre("nothing is assigned by it", x, INITIAL);
    }

    /** Promise 14. */
    private static void assignedAt() {
        DeadTimeLoop x = new DeadTimeLoop();
        due("assignedAt(0) of no text", x.assignedAt(0), NOT_FOUND);
        write(x, "ki=1;kp=1;ki=2;noise=3;kp=4;");
        due("assignedAt(0)", x.assignedAt(0), 1);
        due("assignedAt(1)", x.assignedAt(1), 0);
        due("assignedAt(2)", x.assignedAt(2), 14);
        due("assignedAt(3)", x.assignedAt(3), NOT_FOUND);
        due("assignedAt(16)", x.assignedAt(16), NOT_FOUND);
        due("assignedAt of the greatest int", x.assignedAt(Integer.MAX_VALUE), NOT_FOUND);
        due("assignedAt(-1)", x.assignedAt(-1), INVALID);
        write(x, ";");
        due("assignedAt(0) with a fault", x.assignedAt(0), NOT_POSSIBLE);
        due("assignedAt(9) with a fault", x.assignedAt(9), NOT_POSSIBLE);
        due("assignedAt(-1) with a fault", x.assignedAt(-1), INVALID);
    }

    /** Promise 15; what a tick does has methods of its own below. */
    private static void run() {
        DeadTimeLoop x = new DeadTimeLoop();
        due("run(501)", x.run(501), INVALID);
        due("run(0)", x.run(0), INVALID);
        for (int wrong : WRONG) {
            due("run(" + wrong + ")", x.run(wrong), INVALID);
        }
        due("no tick is made by them", x.time(), 0);
        due("run(1)", x.run(1), 1);
        due("run(499)", x.run(499), 500);
        for (int time = 1000; time < 100000; time += 500) {
            due("run(500)", x.run(500), time);
        }
        due("run(499)", x.run(499), 99999);
        due("run(2) at 99999", x.run(2), CAPACITY);
        due("no tick is made by it", x.time(), 99999);
        due("run(501) at 99999", x.run(501), INVALID);
        due("run(1) at 99999", x.run(1), 100000);
        due("run(1) at 100000", x.run(1), CAPACITY);
        due("ahead may look beyond", x.ahead(500, 0), 0);
    }

    private static void noiseOfATick() {
        DeadTimeLoop x = with("kp=0;ki=0;noise=10;");
        sees("noise with the seed 0", x, 1, -9, 8);
        due("y has no noise", x.value(8), 0);
        x = with("kp=0;ki=0;noise=10;");
        x.setSeed(1);
        sees("noise with the seed 1", x, 1, 2);
        x.setParameter(14, 0);
        sees("no noise", x, 1, 0);
    }

    private static void delayOfATick() {
        DeadTimeLoop x = with("ki=0;dead=15;lag=0;mgain=0;");
        x.setSetpoint(1000);
        sees("y behind a dead time of 15 tenths", x, 8, 0, 0, 500, 1000, 750);
        x = with("ki=0;dead=5;lag=0;mgain=0;");
        x.setSetpoint(-1);
        sees("half of -1 is rounded down", x, 8, 0, -1);
        x = with("ki=0;mdead=15;mlag=0;gain=0;");
        x.setSetpoint(1000);
        sees("p behind a dead time of 15 tenths", x, 4, 0, 0, 500);
        x = with("ki=0;mdead=0;mlag=0;gain=0;");
        x.setSetpoint(1000);
        sees("p without dead time is the present x", x, 4, 0, 1000);
        x = with("ki=0;dead=300;lag=0;mgain=0;");
        x.setSetpoint(70);
        x.run(31);
        due("y before the longest dead time has passed", x.recorded(8, 0), 0);
        x.run(1);
        due("y behind the longest dead time", x.recorded(8, 0), 70);
    }

    private static void stepsOfATick() {
        DeadTimeLoop x = with("ki=0;dead=0;lag=900;gain=2000;mgain=0;filter=750;");
        x.setSetpoint(1000);
        x.run(1);
        due("a tenth of the way to 2000", x.value(8), 200);
        x.run(1);
        due("f makes a quarter of the step to 200", x.value(5), 50);
        due("u is 1000 - 50", x.value(2), 950);
        due("y steps from 200 towards 1900", x.value(8), 370);
        x = with("ki=0;kp=500;mlag=0;mgain=700;");
        x.setSetpoint(-1);
        x.run(1);
        due("half of -1 is rounded down", x.value(2), -1);
        due("0.7 of -1 is rounded down", x.value(3), -1);
    }

    private static void modeOfATick() {
        DeadTimeLoop x = with("lag=0;mgain=0;kp=0;ki=0;limit=9;patience=2;");
        x.setLoad(10);
        sees("too great a mismatch, twice", x, 9, 0, 0, 1);
        x.setLoad(0);
        sees("a bad tick and four good ones", x, 9, 1, 1, 1, 1, 0);
        x = with("lag=0;mgain=0;kp=0;ki=0;limit=10;patience=1;");
        x.setLoad(10);
        sees("a mismatch of just the limit", x, 9, 0, 0, 0);
        x.setLoad(-11);
        sees("a mismatch of -11", x, 9, 0, 1);
        x.setLoad(0);
        sees("a bad tick, then only one good one", x, 9, 1, 1);
        x.setLoad(11);
        sees("the bad tick begins the count anew", x, 9, 0, 1);
        x = with("kp=0;ki=0;noise=10;limit=7;patience=2;");
        sees("noise of -9 and 8 is too great a mismatch", x, 9, 0, 1);
        fallbackOfATick();
    }

    private static void fallbackOfATick() {
        DeadTimeLoop x = with("lag=0;mlag=0;mdead=300;kp=0;ki=0;limit=0;patience=1;filter=999;");
        x.setLoad(1000);
        x.run(2);
        due("the mode", x.value(9), 1);
        x.setParameter(0, 1001);
        x.setParameter(1, 11);
        x.setSetpoint(3000);
        x.run(1);
        due("the feedback is m", x.value(6), 2000);
        due("the gains are 500 and 2", x.value(2), 1004);
        due("i grows by two thousandths", x.value(7), 4);
    }

    private static void limitsOfATick() {
        DeadTimeLoop x = with("ki=0;gain=0;mgain=0;umin=-30;umax=100;");
        x.setSetpoint(500);
        sees("umax", x, 2, 100);
        x.setSetpoint(-500);
        sees("umin", x, 2, -30);
        x = with("ki=0;gain=0;mgain=0;umax=100;rate=70;");
        x.setSetpoint(500);
        sees("the rate, then umax", x, 2, 70, 100);
        x.setParameter(10, 0);
        sees("the rate has the last word", x, 2, 30, 0);
        x.setSetpoint(-500);
        sees("the rate downwards", x, 2, -70, -140);
    }

    private static void windupOfATick() {
        DeadTimeLoop x = with("kp=0;ki=1000;gain=0;mgain=0;umin=-100;umax=100;");
        x.setSetpoint(60);
        sees("i stays when u is held below", x, 7, 60, 60);
        x.setParameter(10, 0);
        x.setSetpoint(-10);
        sees("i falls although u is held below", x, 7, 50, 40);
        x.setSetpoint(-100);
        sees("i falls, then stays when u is held above", x, 7, -60, -60);
        x.setParameter(9, 0);
        x.setSetpoint(10);
        sees("i grows although u is held above", x, 7, -50);
        x.setSetpoint(0);
        sees("without an error i stays", x, 7, -50);
        due("u is the wanted output in its range", x.value(2), 0);
    }

    /** Promise 16. */
    private static void time() {
        DeadTimeLoop x = new DeadTimeLoop();
        x.run(12);
        x.ahead(5, 0);
        x.bestGain(5);
        x.idealDifference(5);
        due("time()", x.time(), 12);
    }

    /** Promise 17. */
    private static void value() {
        DeadTimeLoop x = with("ki=0;dead=0;lag=0;mlag=0;");
        x.setSetpoint(10);
        x.run(1);
        x.setSetpoint(20);
        int[] values = {20, 0, 10, 10, 0, 0, 10, 0, 10, 0};
        for (int signal = 0; signal < 10; signal++) {
            due("value(" + signal + ")", x.value(signal), values[signal]);
        }
        due("value(10)", x.value(10), INVALID);
        for (int wrong : WRONG) {
            due("value(" + wrong + ")", x.value(wrong), INVALID);
        }
    }

    /** Promise 18. */
    private static void recorded() {
        DeadTimeLoop x = with("ki=0;dead=0;lag=0;mlag=0;");
        due("recorded(0, 0) before the first tick", x.recorded(0, 0), NOT_FOUND);
        x.setSetpoint(10);
        x.run(1);
        x.setSetpoint(20);
        int[] values = {10, 0, 10, 0, 0, 0, 10, 0, 0, 0};
        for (int signal = 0; signal < 10; signal++) {
            due("recorded(" + signal + ", 0)", x.recorded(signal, 0), values[signal]);
            due("recorded(" + signal + ", 1)", x.recorded(signal, 1), NOT_FOUND);
        }
        for (int n = 2; n <= 70; n++) {
            x.setSetpoint(10 * n);
            x.run(1);
        }
        for (int ago = 0; ago < 64; ago++) {
            due("recorded(0, " + ago + ")", x.recorded(0, ago), 10 * (70 - ago));
        }
        due("recorded(0, 64)", x.recorded(0, 64), INVALID);
        due("recorded(10, 0)", x.recorded(10, 0), INVALID);
        for (int wrong : WRONG) {
            due("recorded(0, " + wrong + ")", x.recorded(0, wrong), INVALID);
            due("recorded(" + wrong + ", 0)", x.recorded(wrong, 0), INVALID);
        }
    }

    /** Promise 19. */
    private static void restart() {
        DeadTimeLoop x = with("kp=900;limit=10;patience=1;noise=500;");
        write(x, "ki=5;");
        DeadTimeLoop fresh = with("kp=900;limit=10;patience=1;noise=500;");
        x.setSetpoint(-4000);
        x.setLoad(300);
        x.setSeed(5);
        x.watch(1);
        x.run(9);
        x.store();
        x.store();
        x.run(70);
        due("restart()", x.restart(), 79);
        due("time()", x.time(), 0);
        for (int signal = 0; signal < 10; signal++) {
            due("value(" + signal + ") behind restart", x.value(signal), 0);
        }
        due("recorded(1, 0)", x.recorded(1, 0), NOT_FOUND);
        due("watchedAt(0)", x.watchedAt(0), NOT_FOUND);
        due("recall()", x.recall(), NOT_POSSIBLE);
        due("store()", x.store(), 1);
        due("the old setpoint is none", x.setSetpoint(0), 0);
        due("the load", x.setLoad(0), 0);
        due("the seed", x.setSeed(0), 0);
        due("the text stays", x.apply(), 1);
        due("the parameters stay", x.parameter(0), 900);
        due("what can be undone stays", x.undo(), 1);
        behavesAlike("behind restart", x, fresh, 20);
    }

    private static void behavesAlike(String label, DeadTimeLoop x, DeadTimeLoop other, int ticks) {
        for (int tick = 0; tick < ticks; tick++) {
            due(label + ": run(1)", x.run(1), other.run(1));
            for (int signal = 0; signal < 10; signal++) {
                due(label + ": value(" + signal + ")", x.value(signal), other.value(signal));
            }
            for (int what = 0; what < 4; what++) {
                due(label + ": measure(" + what + ")", x.measure(what), other.measure(what));
            }
        }
        for (int lag = 0; lag <= 30; lag++) {
            due(label + ": correlation(" + lag + ")", x.correlation(lag), other.correlation(lag));
        }
    }

    /** Promise 20. */
    private static void watch() {
        DeadTimeLoop x = new DeadTimeLoop();
        due("watch(9)", x.watch(9), 1);
        due("watch(0)", x.watch(0), 2);
        due("watch(3)", x.watch(3), 3);
        due("watch(4)", x.watch(4), 4);
        due("watch(5), the fifth", x.watch(5), CAPACITY);
        due("watch(10)", x.watch(10), INVALID);
        for (int wrong : WRONG) {
            due("watch(" + wrong + ")", x.watch(wrong), INVALID);
        }
        x.setSetpoint(50);
        x.run(1);
        x.setSetpoint(20);
        x.run(1);
        due("the greatest r", x.extreme(0, 1), 50);
        due("watch(0) anew", x.watch(0), 4);
        due("it has seen nothing yet", x.extreme(0, 1), NOT_FOUND);
        due("the others have", x.extreme(3, 0), 0);
        x.run(1);
        due("the greatest r since", x.extreme(0, 1), 20);
    }

    /** Promise 21. */
    private static void unwatch() {
        DeadTimeLoop x = new DeadTimeLoop();
        due("unwatch(2)", x.unwatch(2), NOT_FOUND);
        x.watch(0);
        x.watch(2);
        x.watch(1);
        x.setSetpoint(40);
        x.run(2);
        due("unwatch(0)", x.unwatch(0), 2);
        due("unwatch(0) again", x.unwatch(0), NOT_FOUND);
        due("extreme(0, 0)", x.extreme(0, 0), NOT_POSSIBLE);
        due("the next one keeps its extremes", x.extreme(2, 1), 44);
        due("their tick", x.extreme(2, 2), 0);
        due("the last one keeps its extremes", x.extreme(1, 1), 0);
        due("unwatch(10)", x.unwatch(10), INVALID);
        for (int wrong : WRONG) {
            due("unwatch(" + wrong + ")", x.unwatch(wrong), INVALID);
        }
        due("unwatch(1)", x.unwatch(1), 1);
        due("unwatch(2)", x.unwatch(2), 0);
    }

    /** Promise 22. */
    private static void watchedAt() {
        DeadTimeLoop x = new DeadTimeLoop();
        due("watchedAt(0)", x.watchedAt(0), NOT_FOUND);
        x.watch(8);
        x.watch(0);
        x.watch(5);
        x.watch(9);
        x.watch(0);
        due("watchedAt(0)", x.watchedAt(0), 8);
        due("one that began anew keeps its place", x.watchedAt(1), 0);
        due("watchedAt(3)", x.watchedAt(3), 9);
        due("watchedAt(4)", x.watchedAt(4), NOT_FOUND);
        due("watchedAt of the greatest int", x.watchedAt(Integer.MAX_VALUE), NOT_FOUND);
        due("watchedAt(-1)", x.watchedAt(-1), INVALID);
        x.unwatch(0);
        due("the others move up", x.watchedAt(1), 5);
        x.watch(0);
        due("one that was ended comes last", x.watchedAt(3), 0);
    }

    /** Promise 23. */
    private static void extreme() {
        DeadTimeLoop x = new DeadTimeLoop();
        x.setSetpoint(-500);
        x.run(3);
        x.watch(0);
        due("no tick since", x.extreme(0, 0), NOT_FOUND);
        due("not watched", x.extreme(1, 0), NOT_POSSIBLE);
        due("extreme(0, 3)", x.extreme(0, 3), INVALID);
        due("extreme(0, -1)", x.extreme(0, -1), INVALID);
        due("extreme(10, 0)", x.extreme(10, 0), INVALID);
        due("extreme(-1, 0)", x.extreme(-1, 0), INVALID);
        x.setSetpoint(-20);
        x.run(2);
        x.setSetpoint(-70);
        x.run(1);
        x.setSetpoint(-10);
        x.run(1);
        x.setSetpoint(-30);
        x.run(1);
        x.setSetpoint(-10);
        x.run(80);
        due("the least", x.extreme(0, 0), -70);
        due("the greatest", x.extreme(0, 1), -10);
        due("its first tick", x.extreme(0, 2), 6);
        x.watch(3);
        int first = x.value(3);
        x.run(1);
        due("x counts as recorded, before the tick's step", x.extreme(3, 1), first);
    }

    /** Promise 24. */
    private static void measure() {
        DeadTimeLoop x = with("ki=0;dead=0;lag=0;mgain=0;kp=1500;");
        for (int what = 0; what < 4; what++) {
            due("measure(" + what + ")", x.measure(what), 0);
        }
        due("measure(4)", x.measure(4), INVALID);
        for (int wrong : WRONG) {
            due("measure(" + wrong + ")", x.measure(wrong), INVALID);
        }
        x.setSetpoint(100);
        x.run(3);
        due("errors of m = 0, 150, -75", x.measure(0), 100 + 50 + 175);
        due("effort of u = 150, -75, 263", x.measure(1), 150 + 225 + 337);
        due("overshoot upwards", x.measure(2), 50);
        due("ticks", x.measure(3), 3);
        x.setSetpoint(-40);
        x.run(1);
        due("the error of m = 262", x.measure(0), 302);
        due("the effort reaches back to the tick before", x.measure(1), 262 + 453);
        due("no overshoot downwards", x.measure(2), 0);
        x.run(1);
        due("overshoot downwards of m = -453", x.measure(2), 413);
        x.setSetpoint(-40);
        x.run(1);
        due("the same setpoint looks upwards", x.measure(2), 40 + 619);
        due("one tick", x.measure(3), 1);
    }

    /** Promise 25. */
    private static void settledTicks() {
        DeadTimeLoop x = with("kp=0;ki=0;lag=0;");
        due("no tick", x.settledTicks(100000), 0);
        x.setLoad(5);
        x.run(3);
        due("m = 0, 5, 5", x.settledTicks(5), 3);
        due("m = 0, 5, 5", x.settledTicks(4), 0);
        x.setLoad(-4);
        x.run(2);
        due("m = 0, 5, 5, 5, -4", x.settledTicks(4), 1);
        due("an old tick that was near counts no more", x.settledTicks(3), 0);
        x.setSetpoint(0);
        due("a new section has no ticks", x.settledTicks(100000), 0);
        x.run(2);
        due("at most its ticks", x.settledTicks(100000), 2);
        x.run(61);
        due("63 ticks", x.settledTicks(4), 63);
        x.run(1);
        due("64 ticks", x.settledTicks(4), 64);
        x.run(1);
        due("at most 64", x.settledTicks(4), 64);
        due("settledTicks(-1)", x.settledTicks(-1), INVALID);
        due("settledTicks(100001)", x.settledTicks(100001), INVALID);
    }

    /** Promise 26. */
    private static void store() {
        DeadTimeLoop x = new DeadTimeLoop();
        due("store()", x.store(), 1);
        x.run(1);
        due("store()", x.store(), 2);
        due("the third", x.store(), CAPACITY);
        due("the state is as before", x.time(), 1);
        due("recall()", x.recall(), 1);
        due("store() behind it", x.store(), 2);
    }

    /** Promise 27. */
    private static void recall() {
        DeadTimeLoop x = with("limit=50;patience=3;noise=70;mdead=20;filter=300;");
        due("recall()", x.recall(), NOT_POSSIBLE);
        x.setSetpoint(2000);
        x.setLoad(-30);
        x.setSeed(8);
        x.watch(1);
        x.watch(9);
        x.run(5);
        x.store();
        x.run(90);
        x.setSetpoint(-100);
        x.store();
        x.setLoad(9999);
        x.setSeed(1);
        x.unwatch(1);
        x.watch(0);
        write(x, "kp=1;");
        x.setParameter(0, 900);
        x.run(3);
        due("recall()", x.recall(), 1);
        due("the setpoint of the second", x.value(0), -100);
        due("the time of the second", x.time(), 95);
        due("recall()", x.recall(), 0);
        due("recall()", x.recall(), NOT_POSSIBLE);
        due("the time", x.time(), 5);
        due("the parameters stay", x.parameter(0), 900);
        due("the text stays", x.clearText(), 5);
        due("what can be undone stays", x.undo(), 1);
        DeadTimeLoop other = with("limit=50;patience=3;noise=70;mdead=20;filter=300;");
        other.setSetpoint(2000);
        other.setLoad(-30);
        other.setSeed(8);
        other.watch(1);
        other.watch(9);
        other.run(5);
        for (int signal = 0; signal < 10; signal++) {
            for (int ago = 0; ago < 6; ago++) {
                due("recorded(" + signal + ", " + ago + ")", x.recorded(signal, ago),
                    other.recorded(signal, ago));
            }
        }
        behavesAlike("behind recall", x, other, 20);
        for (int index = 0; index < 3; index++) {
            due("watchedAt(" + index + ")", x.watchedAt(index), other.watchedAt(index));
        }
        for (int what = 0; what < 3; what++) {
            due("extreme(1, " + what + ")", x.extreme(1, what), other.extreme(1, what));
        }
        due("the setpoint before", x.setSetpoint(0), 2000);
        due("the load", x.setLoad(0), -30);
        due("the seed", x.setSeed(0), 8);
    }

    /** u and m alternate: u = 1000, 0, 1000, .. and m = 0, 1000, 0, .. */
    private static DeadTimeLoop alternating() {
        DeadTimeLoop x = with("ki=0;dead=0;lag=0;mgain=0;");
        x.setSetpoint(1000);
        return x;
    }

    /** Promise 28. */
    private static void correlation() {
        DeadTimeLoop x = alternating();
        due("no tick", x.correlation(0), 0);
        x.run(2);
        due("two ticks, lag 0", x.correlation(0), 1000000);
        due("two ticks, lag 1", x.correlation(1), 0);
        x.run(1);
        due("three ticks, lag 0", x.correlation(0), 2000000);
        due("three ticks, lag 1", x.correlation(1), -1000000);
        x.setParameter(5, -1);
        due("a negative mgain turns it round", x.correlation(0), -2000000);
        x.setParameter(5, 0);
        x.run(97);
        due("32 ticks, lag 0", x.correlation(0), 32000000);
        due("32 ticks, lag 30", x.correlation(30), 32000000);
        due("correlation(31)", x.correlation(31), INVALID);
        for (int wrong : WRONG) {
            due("correlation(" + wrong + ")", x.correlation(wrong), INVALID);
        }
        x = alternating();
        x.run(32);
        due("31 changes of m in the first 32 ticks", x.correlation(0), 31000000);
        due("one change of u behind 30 ticks", x.correlation(30), 1000000);
        x = new DeadTimeLoop();
        x.setParameter(2, 5000);
        x.setParameter(3, 0);
        x.setParameter(4, 0);
        x.setParameter(0, 20000);
        x.setParameter(9, -100000);
        x.setParameter(10, 100000);
        x.setParameter(5, 0);
        x.setSetpoint(100000);
        x.run(50);
        due("correlations beyond the ints", x.correlation(0), 32L * 200000 * 1000000);
    }

    /** Promise 29. */
    private static void estimatedLag() {
        DeadTimeLoop x = alternating();
        due("no tick", x.estimatedLag(), NOT_FOUND);
        x.run(1);
        due("all are 0", x.estimatedLag(), NOT_FOUND);
        x.run(2);
        due("lag 0", x.estimatedLag(), 0);
        x.setParameter(5, -1);
        due("lag 1 with a negative mgain", x.estimatedLag(), 1);
        x.setParameter(5, 0);
        x.run(97);
        due("of several the lowest", x.estimatedLag(), 0);
        x = openLoop("dead=20;", 1);
        x.run(4);
        due("a correlation of 1", x.estimatedLag(), 2);
        due("is enough for tuneDelay()", x.tuneDelay(), 20);
        x = openLoop("dead=300;", 300);
        x.run(32);
        due("the lag 30", x.estimatedLag(), 30);
        x.setParameter(5, -1);
        due("none above 0", x.estimatedLag(), NOT_FOUND);
    }

    /** The feedback stays 0, since f makes no step as long as m is below 1000: u is the setpoint. */
    private static DeadTimeLoop openLoop(String more, int setpoint) {
        DeadTimeLoop x = with("ki=0;lag=0;mgain=0;filter=999;" + more);
        x.setSetpoint(setpoint);
        return x;
    }

    /** Promise 30. */
    private static void tuneDelay() {
        DeadTimeLoop x = new DeadTimeLoop();
        due("no estimated lag", x.tuneDelay(), NOT_POSSIBLE);
        due("no change", x.undo(), NOT_POSSIBLE);
        x = openLoop("dead=130;", 300);
        x.run(20);
        due("tuneDelay()", x.tuneDelay(), 130);
        due("mdead", x.parameter(7), 130);
        due("it is a change", x.undo(), 1);
        due("mdead", x.parameter(7), 50);
        x = openLoop("dead=300;", 300);
        x.run(40);
        due("the greatest lag", x.tuneDelay(), 300);
        x = openLoop("dead=4;", 3);
        x.run(4);
        due("correlation(0)", x.correlation(0), 3);
        due("correlation(1)", x.correlation(1), 6);
        due("just twice the second", x.tuneDelay(), 10);
        x = openLoop("dead=5;", 5);
        x.run(4);
        due("correlation(0)", x.correlation(0), 10);
        due("correlation(1)", x.correlation(1), 15);
        due("less than twice the second", x.tuneDelay(), NOT_POSSIBLE);
        due("mdead", x.parameter(7), 50);
        x = alternating();
        x.run(100);
        due("two equal ones", x.tuneDelay(), NOT_POSSIBLE);
        x = alternating();
        x.run(3);
        due("lag 0, all others at most 0", x.tuneDelay(), 0);
        due("mdead", x.parameter(7), 0);
    }

    /** Promise 31. */
    private static void ahead() {
        DeadTimeLoop x = with("noise=40;mdead=33;limit=90;patience=2;filter=500;");
        x.setSetpoint(700);
        x.setLoad(100);
        x.setSeed(3);
        x.watch(1);
        x.run(70);
        for (int ticks : new int[] {1, 2, 17, 64, 65, 500}) {
            x.store();
            int[] expected = new int[10];
            x.run(ticks);
            for (int signal = 0; signal < 10; signal++) {
                expected[signal] = x.value(signal);
            }
            x.recall();
            int greatest = x.extreme(1, 1);
            for (int signal = 0; signal < 10; signal++) {
                due("ahead(" + ticks + ", " + signal + ")", x.ahead(ticks, signal),
                    expected[signal]);
            }
            due("ahead changes nothing", x.time(), 70);
            due("ahead is not watched", x.extreme(1, 1), greatest);
        }
        due("ahead(0, 0)", x.ahead(0, 0), INVALID);
        due("ahead(501, 0)", x.ahead(501, 0), INVALID);
        due("ahead(1, 10)", x.ahead(1, 10), INVALID);
        for (int wrong : WRONG) {
            due("ahead(" + wrong + ", 0)", x.ahead(wrong, 0), INVALID);
            due("ahead(1, " + wrong + ")", x.ahead(1, wrong), INVALID);
        }
    }

    /** Promise 32. */
    private static void bestGain() {
        DeadTimeLoop x = new DeadTimeLoop();
        due("all gains are alike", x.bestGain(100), 0);
        due("bestGain(0)", x.bestGain(0), INVALID);
        due("bestGain(101)", x.bestGain(101), INVALID);
        for (int wrong : WRONG) {
            due("bestGain(" + wrong + ")", x.bestGain(wrong), INVALID);
        }
        x.setSetpoint(1000);
        due("the gain is not felt yet", x.bestGain(6), 0);
        due("only upwards", x.bestGain(7), 5000);
        for (int dead = 0; dead <= 60; dead += 15) {
            x = with("dead=" + dead + ";mdead=20;ki=300;noise=10;kp=777;limit=300;");
            x.setSetpoint(1000);
            x.run(3);
            for (int ticks : new int[] {1, 20, 100}) {
                due("bestGain(" + ticks + "), dead " + dead, x.bestGain(ticks),
                    triedGain(x, ticks));
            }
            due("kp stays", x.parameter(0), 777);
            due("the time stays", x.time(), 3);
        }
    }

    /** Tries each gain with the loop itself. */
    private static int triedGain(DeadTimeLoop x, int ticks) {
        long least = Long.MAX_VALUE;
        int best = -1;
        for (int gain = 0; gain <= 5000; gain += 250) {
            x.store();
            x.setParameter(0, gain);
            x.setSetpoint(x.value(0));
            x.run(ticks);
            if (x.measure(0) < least) {
                least = x.measure(0);
                best = gain;
            }
            x.undo();
            x.recall();
        }
        return best;
    }

    /** Promise 33. */
    private static void idealDifference() {
        DeadTimeLoop x = new DeadTimeLoop();
        due("without a setpoint", x.idealDifference(1), 0);
        due("idealDifference(0)", x.idealDifference(0), INVALID);
        due("idealDifference(201)", x.idealDifference(201), INVALID);
        for (int wrong : WRONG) {
            due("idealDifference(" + wrong + ")", x.idealDifference(wrong), INVALID);
        }
        x.setSetpoint(1000);
        due("a perfect model", x.idealDifference(200), 0);
        for (int dead : new int[] {0, 9, 10, 37, 300}) {
            String common = "kp=1200;ki=150;umax=1100;rate=300;noise=0;";
            x = with(common + "dead=" + dead + ";mdead=30;mgain=800;limit=200;");
            x.setSetpoint(1000);
            x.setLoad(400);
            x.setSeed(77);
            x.run(9);
            x.setParameter(14, 900);
            for (int ticks : new int[] {1, 2, 30, 200}) {
                due("idealDifference(" + ticks + "), dead " + dead, x.idealDifference(ticks),
                    differenceOfTwo(common, dead, ticks));
            }
            due("the time stays", x.time(), 9);
            due("the load stays", x.setLoad(0), 400);
        }
    }

    /** Without a model f is m, so that the feedback of the second loop is m and its mode stays 0. */
    private static int differenceOfTwo(String common, int dead, int ticks) {
        DeadTimeLoop actual = with(common + "dead=" + dead + ";mdead=30;mgain=800;limit=200;");
        DeadTimeLoop ideal = with(common + "dead=0;mgain=0;limit=100000;");
        actual.setSetpoint(1000);
        ideal.setSetpoint(1000);
        int greatest = 0;
        if (dead >= 10) {
            actual.run(dead / 10);
        }
        for (int t = 0; t <= ticks; t++) {
            greatest = Math.max(greatest, Math.abs(actual.value(8) - ideal.value(8)));
            actual.run(1);
            ideal.run(1);
        }
        return greatest;
    }
}
