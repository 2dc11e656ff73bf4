/** The sentences of "Measures", and promises 20 to 27: records and measures. */
public final class RecordsTest extends Bench {
    private RecordsTest() {
    }

    public static void main(String[] args) {
        fourWatchedSignals();
        watchingAnew();
        watchingBeginsNow();
        unwatch();
        unwatchOfOthers();
        orderOfWatching();
        extremesOfASignal();
        firstTickOfTheGreatest();
        extremesBehindTheRecords();
        extremesAreRecordedValues();
        extremeBeforeATick();
        sectionsOfTheFirstTicks();
        sectionBeginsWithTheSetpoint();
        errorSum();
        errorSumBeyondTheInts();
        effort();
        effortBeyondTheInts();
        overshootUpwards();
        overshootDownwards();
        overshootOfTheSameSetpoint();
        overshootOfTheFirstSection();
        overshootOfASetpointSetTwice();
        tolerances();
        settledInARow();
        settledAtMost64();
        settledInTheSection();
        twoStoredStates();
        recallGoesBack();
        recallKeepsWhatStays();
        recallBehindChanges();
        recallOfMeasures();
        recallOfWatchedSignals();
        recallOfBadAndGoodTicks();
        Check.end();
    }

    /** "CAPACITY_EXCEEDED if 4 other signals are watched" */
    private static void fourWatchedSignals() {
        DeadTimeLoop x = new DeadTimeLoop();
        due("watch(9)", x.watch(9), 1);
        due("watch(0)", x.watch(0), 2);
        due("watch(3)", x.watch(3), 3);
        due("watch(4)", x.watch(4), 4);
        due("the fifth", x.watch(5), CAPACITY);
        due("the fifth again", x.watch(8), CAPACITY);
        due("a wrong fifth", x.watch(10), INVALID);
        due("one of the four", x.watch(4), 4);
        due("the first of the four", x.watch(9), 4);
        due("no fifth is watched", x.watchedAt(4), NOT_FOUND);
        due("unwatch(0)", x.unwatch(0), 3);
        due("there is room for one", x.watch(5), 4);
        due("and no more", x.watch(0), CAPACITY);
    }

    /** "If it is watched already, this begins anew." */
    private static void watchingAnew() {
        DeadTimeLoop x = new DeadTimeLoop();
        x.watch(0);
        x.watch(3);
        setAndRun(x, 50);
        setAndRun(x, 20);
        due("the greatest r", x.extreme(0, 1), 50);
        due("watch(0) anew", x.watch(0), 2);
        for (int what = 0; what < 3; what++) {
            due("it has seen nothing yet", x.extreme(0, what), NOT_FOUND);
        }
        due("the other goes on", x.extreme(3, 0), 0);
        x.run(1);
        due("the greatest r since", x.extreme(0, 1), 20);
        due("the least r since", x.extreme(0, 0), 20);
        due("its tick", x.extreme(0, 2), 2);
    }

    /** "from now on, its least and greatest recorded values are kept" */
    private static void watchingBeginsNow() {
        DeadTimeLoop x = new DeadTimeLoop();
        setAndRun(x, 70);
        setAndRun(x, -70);
        x.watch(0);
        setAndRun(x, 10);
        due("the greatest", x.extreme(0, 1), 10);
        due("the least", x.extreme(0, 0), 10);
        due("its tick", x.extreme(0, 2), 2);
        x.setSetpoint(90);
        due("what is no tick is not seen", x.extreme(0, 1), 10);
        x.ahead(5, 0);
        x.bestGain(5);
        x.idealDifference(5);
        due("what would come is not seen", x.extreme(0, 1), 10);
    }

    /** "Returns the number of watched signals that remain; .. NOT_FOUND if it is not watched." */
    private static void unwatch() {
        DeadTimeLoop x = new DeadTimeLoop();
        due("unwatch(2) where none is watched", x.unwatch(2), NOT_FOUND);
        x.watch(2);
        x.watch(1);
        due("unwatch(0) where others are watched", x.unwatch(0), NOT_FOUND);
        due("unwatch(2)", x.unwatch(2), 1);
        due("unwatch(2) again", x.unwatch(2), NOT_FOUND);
        due("extreme(2, 0)", x.extreme(2, 0), NOT_POSSIBLE);
        due("unwatch(1)", x.unwatch(1), 0);
        due("unwatch(1) again", x.unwatch(1), NOT_FOUND);
        due("watchedAt(0)", x.watchedAt(0), NOT_FOUND);
    }

    private static void unwatchOfOthers() {
        for (int ended = 0; ended < 4; ended++) {
            DeadTimeLoop x = silent("");
            int[] signals = {0, 2, 6, 9};
            for (int signal : signals) {
                x.watch(signal);
            }
            setAndRun(x, 30);
            setAndRun(x, 40);
            setAndRun(x, -5);
            due("unwatch(" + signals[ended] + ")", x.unwatch(signals[ended]), 3);
            for (int n = 0; n < 4; n++) {
                boolean gone = n == ended;
                int signal = signals[n];
                due("the greatest of " + signal, x.extreme(signal, 1),
                    gone ? NOT_POSSIBLE : signal == 9 ? 0 : 40);
                due("the least of " + signal, x.extreme(signal, 0),
                    gone ? NOT_POSSIBLE : signal == 9 ? 0 : -5);
                due("the tick of " + signal, x.extreme(signal, 2),
                    gone ? NOT_POSSIBLE : signal == 9 ? 0 : 1);
            }
            due("the fourth is free", x.watch(5), 4);
            due("it has seen nothing", x.extreme(5, 0), NOT_FOUND);
        }
    }

    /** "in the order in which watching began (one that began anew keeps its place)" */
    private static void orderOfWatching() {
        DeadTimeLoop x = new DeadTimeLoop();
        due("watchedAt(0) of none", x.watchedAt(0), NOT_FOUND);
        x.watch(8);
        due("watchedAt(0) of one", x.watchedAt(0), 8);
        due("watchedAt(1) of one", x.watchedAt(1), NOT_FOUND);
        x.watch(0);
        x.watch(5);
        x.watch(9);
        x.watch(0);
        due("watchedAt(0)", x.watchedAt(0), 8);
        due("one that began anew", x.watchedAt(1), 0);
        due("watchedAt(2)", x.watchedAt(2), 5);
        due("watchedAt(3)", x.watchedAt(3), 9);
        due("watchedAt(4)", x.watchedAt(4), NOT_FOUND);
        due("watchedAt of the greatest int", x.watchedAt(Integer.MAX_VALUE), NOT_FOUND);
        due("watchedAt(-1)", x.watchedAt(-1), INVALID);
        x.unwatch(0);
        due("the others move up", x.watchedAt(1), 5);
        due("the others move up", x.watchedAt(2), 9);
        due("there are three", x.watchedAt(3), NOT_FOUND);
        x.watch(0);
        due("one that was ended comes last", x.watchedAt(3), 0);
    }

    /** "0: the least value; 1: the greatest value; 2: the first tick with the greatest value" */
    private static void extremesOfASignal() {
        DeadTimeLoop x = new DeadTimeLoop();
        x.watch(0);
        setAndRun(x, -20);
        due("the least of one tick", x.extreme(0, 0), -20);
        due("the greatest of one tick", x.extreme(0, 1), -20);
        due("its tick", x.extreme(0, 2), 0);
        setAndRun(x, -19);
        due("the least", x.extreme(0, 0), -20);
        due("one more is greater", x.extreme(0, 1), -19);
        due("its tick", x.extreme(0, 2), 1);
        setAndRun(x, -21);
        due("one less is less", x.extreme(0, 0), -21);
        due("the greatest", x.extreme(0, 1), -19);
        due("its tick", x.extreme(0, 2), 1);
        due("extreme(0, 3)", x.extreme(0, 3), INVALID);
        due("extreme(0, -1)", x.extreme(0, -1), INVALID);
        setAndRun(x, 100000);
        setAndRun(x, -100000);
        due("the least", x.extreme(0, 0), -100000);
        due("the greatest", x.extreme(0, 1), 100000);
        due("its tick", x.extreme(0, 2), 3);
    }

    private static void firstTickOfTheGreatest() {
        DeadTimeLoop x = new DeadTimeLoop();
        x.run(3);
        x.watch(0);
        setAndRun(x, 5);
        setAndRun(x, 7);
        setAndRun(x, 7);
        setAndRun(x, 6);
        setAndRun(x, 7);
        due("the first of three equal ones", x.extreme(0, 2), 4);
        setAndRun(x, 8);
        due("a greater one", x.extreme(0, 2), 8);
        x.watch(0);
        setAndRun(x, 0);
        x.run(5);
        due("the first of all", x.extreme(0, 2), 9);
    }

    /** The extremes are kept longer than the 64 records. */
    private static void extremesBehindTheRecords() {
        DeadTimeLoop x = new DeadTimeLoop();
        x.watch(0);
        setAndRun(x, 50);
        setAndRun(x, -50);
        x.setSetpoint(0);
        x.run(500);
        due("the greatest", x.extreme(0, 1), 50);
        due("its tick", x.extreme(0, 2), 0);
        due("the least", x.extreme(0, 0), -50);
    }

    /** "recorded values": y and x before the step, the mode behind step 3. */
    private static void extremesAreRecordedValues() {
        DeadTimeLoop x = loaded("limit=9;patience=1;");
        x.watch(8);
        x.watch(9);
        x.watch(1);
        loadAndRun(x, 10);
        due("y of the tick", x.extreme(8, 1), 0);
        due("m of the tick", x.extreme(1, 1), 0);
        x.run(1);
        due("y of the next tick", x.extreme(8, 1), 10);
        due("its tick", x.extreme(8, 2), 1);
        due("the mode of the next tick", x.extreme(9, 1), 1);
        due("its tick", x.extreme(9, 2), 1);
    }

    /** "NOT_POSSIBLE if the signal is not watched; NOT_FOUND if there has been no tick since" */
    private static void extremeBeforeATick() {
        DeadTimeLoop x = new DeadTimeLoop();
        due("not watched", x.extreme(1, 0), NOT_POSSIBLE);
        x.watch(1);
        due("no tick at all", x.extreme(1, 0), NOT_FOUND);
        due("not watched", x.extreme(2, 0), NOT_POSSIBLE);
        x.run(3);
        due("the least", x.extreme(1, 0), 0);
        x.watch(2);
        due("no tick since", x.extreme(2, 0), NOT_FOUND);
        due("no tick since", x.extreme(2, 1), NOT_FOUND);
        due("no tick since", x.extreme(2, 2), NOT_FOUND);
        due("a wrong question", x.extreme(2, 3), INVALID);
        x.run(1);
        due("a tick since", x.extreme(2, 2), 3);
    }

    private static void measures(String label, DeadTimeLoop x, long... values) {
        for (int what = 0; what < 4; what++) {
            due(label + ": measure(" + what + ")", x.measure(what), values[what]);
        }
    }

    /** "A section begins at time 0" */
    private static void sectionsOfTheFirstTicks() {
        DeadTimeLoop x = loaded("");
        measures("before the first tick", x, 0, 0, 0, 0);
        loadAndRun(x, 5);
        measures("m is 0", x, 0, 0, 0, 1);
        x.run(1);
        measures("m is 5", x, 5, 0, 5, 2);
        x.restart();
        measures("behind restart()", x, 0, 0, 0, 0);
        x.run(2);
        measures("m is 0", x, 0, 0, 0, 2);
    }

    /** "and whenever the setpoint is set (also to the same value); it lasts until now" */
    private static void sectionBeginsWithTheSetpoint() {
        DeadTimeLoop x = loaded("");
        x.setLoad(9);
        x.run(4);
        measures("the first section", x, 27, 0, 9, 4);
        x.setSetpoint(4);
        measures("a section without a tick", x, 0, 0, 0, 0);
        x.run(3);
        measures("m is 9, r is 4", x, 15, 0, 5, 3);
        x.setSetpoint(4);
        measures("the same setpoint", x, 0, 0, 0, 0);
        x.run(1);
        measures("one tick of it", x, 5, 0, 5, 1);
        due("a refused setpoint", x.setSetpoint(-100001), INVALID);
        x.setParameter(0, 0);
        x.setLoad(9);
        x.setSeed(3);
        measures("all else begins none", x, 5, 0, 5, 1);
        x.run(70);
        measures("it lasts beyond the records", x, 355, 0, 5, 71);
    }

    /** "the sum of |r - m| over its ticks" */
    private static void errorSum() {
        DeadTimeLoop x = loaded("");
        x.setSetpoint(-3);
        loadAndRun(x, -10);
        due("m is 0", x.measure(0), 3);
        loadAndRun(x, 10);
        due("m is -10", x.measure(0), 10);
        loadAndRun(x, -3);
        due("m is 10", x.measure(0), 23);
        x.run(1);
        due("m is -3", x.measure(0), 23);
    }

    private static void errorSumBeyondTheInts() {
        DeadTimeLoop x = loaded("gain=5000;");
        x.setLoad(100000);
        x.setSetpoint(-100000);
        x.run(500);
        x.run(500);
        x.run(500);
        x.run(500);
        x.run(500);
        x.run(500);
        x.run(500);
        x.run(500);
        due("4000 ticks, 600000 each, but for the first", x.measure(0), 2399500000L);
    }

    /** "the sum of |u - previous u| over its ticks": the first one reaches back. */
    private static void effort() {
        DeadTimeLoop x = silent("");
        setAndRun(x, 100);
        due("the first tick, from 0", x.measure(1), 100);
        x.run(1);
        due("no step", x.measure(1), 100);
        setAndRun(x, 40);
        due("the first tick of a section, from 100", x.measure(1), 60);
        x.run(2);
        due("no step", x.measure(1), 60);
        setAndRun(x, -40);
        due("from 40", x.measure(1), 80);
        setAndRun(x, -40);
        due("from -40", x.measure(1), 0);
        x.restart();
        setAndRun(x, 7);
        due("behind restart(), from 0", x.measure(1), 7);
    }

    private static void effortBeyondTheInts() {
        DeadTimeLoop x = with("ki=0;gain=5000;lag=0;dead=0;mgain=0;kp=20000;umin=-100000;");
        x.setParameter(10, 100000);
        x.setSetpoint(100000);
        for (int n = 0; n < 24; n++) {
            x.run(500);
        }
        due("12000 ticks, 200000 each, but for the first", x.measure(1), 2399900000L);
    }

    private static void overshoots(String label, DeadTimeLoop x, int measured, int overshoot) {
        loadAndRun(x, measured);
        x.setSetpoint(x.value(R));
        x.run(1);
        due(label + ", m is " + measured, x.measure(2), overshoot);
    }

    /** "the greatest value of m - r if r is at least the setpoint before it .., but at least 0" */
    private static void overshootUpwards() {
        DeadTimeLoop x = loaded("");
        loadAndRun(x, 99);
        x.setSetpoint(100);
        loadAndRun(x, 100);
        due("m is 99", x.measure(2), 0);
        loadAndRun(x, 101);
        due("m is 100", x.measure(2), 0);
        loadAndRun(x, 103);
        due("m is 101", x.measure(2), 1);
        loadAndRun(x, 102);
        due("m is 103", x.measure(2), 3);
        loadAndRun(x, -500);
        due("m is 102: the greatest one stays", x.measure(2), 3);
        x.run(1);
        due("m is -500", x.measure(2), 3);
        overshoots("r as before", x, 100, 0);
        overshoots("r as before", x, 101, 1);
    }

    /** "or of r - m otherwise" */
    private static void overshootDownwards() {
        DeadTimeLoop x = loaded("");
        x.setSetpoint(100);
        loadAndRun(x, 100);
        x.setSetpoint(99);
        loadAndRun(x, 99);
        due("m is 100", x.measure(2), 0);
        loadAndRun(x, 98);
        due("m is 99", x.measure(2), 0);
        loadAndRun(x, 95);
        due("m is 98", x.measure(2), 1);
        loadAndRun(x, 97);
        due("m is 95", x.measure(2), 4);
        loadAndRun(x, 500);
        due("m is 97: the greatest one stays", x.measure(2), 4);
        x.run(1);
        due("m is 500", x.measure(2), 4);
        x = loaded("");
        x.setSetpoint(-1);
        loadAndRun(x, -2);
        due("m is 0, r is below the first setpoint, 0", x.measure(2), 0);
        x.run(1);
        due("m is -2", x.measure(2), 1);
    }

    /** "at least the setpoint before it": an equal one looks upwards. */
    private static void overshootOfTheSameSetpoint() {
        DeadTimeLoop x = loaded("");
        x.setSetpoint(-50);
        loadAndRun(x, -40);
        x.setSetpoint(-50);
        x.run(1);
        due("m is -40", x.measure(2), 10);
        x.setSetpoint(-51);
        x.run(1);
        due("one below looks downwards", x.measure(2), 0);
        x.setSetpoint(-50);
        x.run(1);
        due("one above looks upwards", x.measure(2), 10);
    }

    /** "(0 for the first section)" */
    private static void overshootOfTheFirstSection() {
        DeadTimeLoop x = loaded("");
        loadAndRun(x, -5);
        loadAndRun(x, 5);
        due("m is -5", x.measure(2), 0);
        x.run(1);
        due("m is 5", x.measure(2), 5);
        x.setSetpoint(-9);
        x.restart();
        loadAndRun(x, 5);
        x.run(1);
        due("behind restart(), m is 5", x.measure(2), 5);
    }

    /** A section may have no tick; its setpoint is the one before all the same. */
    private static void overshootOfASetpointSetTwice() {
        DeadTimeLoop x = loaded("");
        loadAndRun(x, 45);
        x.setSetpoint(100);
        x.setSetpoint(50);
        x.run(1);
        due("50 is below 100", x.measure(2), 5);
    }

    /** "in all of which |r - m| was at most a tolerance", "tolerance: 0 to 100000" */
    private static void tolerances() {
        DeadTimeLoop x = loaded("");
        due("settledTicks(-1)", x.settledTicks(-1), INVALID);
        due("settledTicks(100001)", x.settledTicks(100001), INVALID);
        x.setLoad(5);
        x.run(3);
        due("0, 5, 5 with 5", x.settledTicks(5), 3);
        due("0, 5, 5 with 4", x.settledTicks(4), 0);
        due("0, 5, 5 with 0", x.settledTicks(0), 0);
        x.setLoad(-4);
        x.run(2);
        due("0, 5, 5, 5, -4 with 4", x.settledTicks(4), 1);
        due("0, 5, 5, 5, -4 with 3", x.settledTicks(3), 0);
        x.setSetpoint(-4);
        x.run(2);
        due("no error", x.settledTicks(0), 2);
        x.setSetpoint(100000);
        loadAndRun(x, 0);
        x.run(1);
        due("an error of 100000", x.settledTicks(100000), 1);
        due("an error of 100000 with 99999", x.settledTicks(99999), 0);
        loadAndRun(x, -1);
        x.run(1);
        due("an error of 100001", x.settledTicks(100000), 0);
    }

    private static void settledInARow() {
        DeadTimeLoop x = loaded("");
        for (int load : new int[] {1, 9, 2, 3, 9, 4, 5, 6, 0}) {
            loadAndRun(x, load);
        }
        due("0, 1, 9, 2, 3, 9, 4, 5, 6", x.settledTicks(6), 3);
        due("with 5", x.settledTicks(5), 0);
        due("with 8", x.settledTicks(8), 3);
        due("with 9", x.settledTicks(9), 9);
    }

    /** "at most 64" */
    private static void settledAtMost64() {
        for (int ticks : new int[] {62, 63, 64, 65, 66, 500}) {
            DeadTimeLoop x = loaded("");
            x.run(ticks);
            due(ticks + " ticks", x.settledTicks(0), Math.min(ticks, 64));
        }
        DeadTimeLoop x = loaded("");
        x.run(30);
        loadAndRun(x, 1);
        loadAndRun(x, 0);
        x.run(62);
        due("62 ticks behind one", x.settledTicks(0), 62);
        x.run(1);
        due("63 ticks behind one", x.settledTicks(0), 63);
        x.run(1);
        due("64 ticks behind one", x.settledTicks(0), 64);
        x.run(1);
        due("65 ticks behind one", x.settledTicks(0), 64);
    }

    /** "and at most the ticks of the present section" */
    private static void settledInTheSection() {
        DeadTimeLoop x = loaded("");
        due("no tick", x.settledTicks(100000), 0);
        x.run(10);
        due("the ticks of the first section", x.settledTicks(0), 10);
        x.setSetpoint(0);
        due("a section without a tick", x.settledTicks(100000), 0);
        x.run(1);
        due("a section of one tick", x.settledTicks(100000), 1);
        x.run(62);
        due("a section of 63 ticks", x.settledTicks(0), 63);
        x.run(1);
        due("a section of 64 ticks", x.settledTicks(0), 64);
    }

    /** "Returns the number of stored states; CAPACITY_EXCEEDED if there are 2." */
    private static void twoStoredStates() {
        DeadTimeLoop x = new DeadTimeLoop();
        due("store()", x.store(), 1);
        x.run(1);
        due("store()", x.store(), 2);
        x.run(1);
        due("the third", x.store(), CAPACITY);
        due("the state is as before", x.time(), 2);
        due("recall()", x.recall(), 1);
        due("the second, not the refused one", x.time(), 1);
        x.run(8);
        due("store() behind it", x.store(), 2);
        due("the third", x.store(), CAPACITY);
        due("recall()", x.recall(), 1);
        due("time()", x.time(), 9);
        due("recall()", x.recall(), 0);
        due("time()", x.time(), 0);
        due("recall()", x.recall(), NOT_POSSIBLE);
    }

    private static final String MOVING = "limit=50;patience=3;noise=70;mdead=20;filter=300;";

    private static DeadTimeLoop moving(int ticks) {
        DeadTimeLoop x = with(MOVING);
        x.setSetpoint(2000);
        x.setLoad(-30);
        x.setSeed(8);
        x.watch(1);
        x.watch(9);
        x.run(ticks);
        return x;
    }

    private static void disturb(DeadTimeLoop x) {
        x.setSetpoint(-100);
        x.setLoad(9999);
        x.setSeed(1);
        x.unwatch(1);
        x.watch(0);
        x.run(90);
    }

    /** "all signals, records, watched signals and measures, the time, the setpoint, .." */
    private static void recallGoesBack() {
        for (int ticks = 0; ticks <= 12; ticks++) {
            for (int part = 0; part < 2; part++) {
                DeadTimeLoop x = moving(ticks);
                due("store()", x.store(), 1);
                disturb(x);
                due("recall()", x.recall(), 0);
                Twins.compare("behind recall(), tick " + ticks, part, x, moving(ticks));
            }
        }
        for (int part = 0; part < 2; part++) {
            DeadTimeLoop x = moving(70);
            x.store();
            x.store();
            disturb(x);
            due("recall() of the second", x.recall(), 1);
            Twins.compare("behind recall() of the second", part, x, moving(70));
            x.recall();
            Twins.compare("behind recall() of the first", part, x, moving(70));
        }
        storingChangesNothing();
    }

    private static void storingChangesNothing() {
        for (int part = 0; part < 2; part++) {
            DeadTimeLoop x = moving(9);
            x.store();
            Twins.compare("behind store()", part, x, moving(9));
        }
    }

    /** "Parameters, what can be undone, and the text stay." */
    private static void recallKeepsWhatStays() {
        DeadTimeLoop x = moving(5);
        x.store();
        write(x, "kp=1;");
        x.setParameter(0, 900);
        due("recall()", x.recall(), 0);
        due("the parameters stay", x.parameter(0), 900);
        due("what can be undone stays", x.undo(), 1);
        due("kp", x.parameter(0), 1000);
        due("the text stays", x.clearText(), 5);
    }

    /** "The setpoint before" is stored too: the section looks downwards behind recall(). */
    private static void recallBehindChanges() {
        DeadTimeLoop x = loaded("");
        loadAndRun(x, 45);
        x.setSetpoint(100);
        x.setSetpoint(50);
        x.store();
        x.setSetpoint(90);
        x.run(3);
        x.recall();
        x.run(1);
        due("50 is below 100", x.measure(2), 5);
        due("ticks of the section", x.measure(3), 1);
        due("settledTicks(5)", x.settledTicks(5), 1);
    }

    private static void recallOfMeasures() {
        DeadTimeLoop x = silent("lag=0;gain=1000;dead=300;");
        x.setSetpoint(30);
        x.setLoad(37);
        x.run(3);
        measures("m is 0, 37, 37", x, 44, 67, 7, 3);
        x.store();
        x.setSetpoint(0);
        x.run(2);
        measures("m is 37, 37", x, 74, 30, 0, 2);
        x.store();
        x.setLoad(0);
        x.run(90);
        x.setSetpoint(5);
        x.recall();
        measures("the second", x, 74, 30, 0, 2);
        x.recall();
        measures("the first", x, 44, 67, 7, 3);
    }

    private static void recallOfWatchedSignals() {
        DeadTimeLoop x = silent("");
        x.store();
        x.watch(0);
        x.watch(2);
        setAndRun(x, 8);
        x.store();
        x.watch(7);
        x.watch(9);
        setAndRun(x, 19);
        due("recall()", x.recall(), 1);
        due("the greatest r", x.extreme(0, 1), 8);
        due("the least u", x.extreme(2, 0), 8);
        due("the third is watched no more", x.watchedAt(2), NOT_FOUND);
        due("there is room for the fourth", x.watch(3) * 10 + x.watch(4), 34);
        due("recall()", x.recall(), 0);
        due("none is watched", x.watchedAt(0), NOT_FOUND);
        due("extreme(0, 1)", x.extreme(0, 1), NOT_POSSIBLE);
        due("the first", x.watch(5), 1);
        x.store();
        x.unwatch(5);
        due("recall()", x.recall(), 0);
        due("it is watched again", x.watchedAt(0), 5);
    }

    /** The numbers of bad and good ticks are a part of the state. */
    private static void recallOfBadAndGoodTicks() {
        DeadTimeLoop x = loaded("limit=9;patience=2;");
        x.setLoad(10);
        x.run(2);
        x.store();
        x.run(1);
        due("two bad ticks", x.value(9), 1);
        x.recall();
        due("one bad tick", x.value(9), 0);
        x.run(1);
        due("the second bad tick", x.value(9), 1);
        loadAndRun(x, 0);
        x.run(3);
        x.store();
        x.run(1);
        due("four good ticks", x.value(9), 0);
        x.recall();
        due("three good ticks", x.value(9), 1);
        x.run(1);
        due("the fourth good tick", x.value(9), 0);
        x = loaded("limit=9;patience=2;");
        x.store();
        x.setLoad(10);
        x.run(2);
        x.recall();
        x.setLoad(10);
        x.run(2);
        due("the bad tick behind store() is forgotten", x.value(9), 0);
    }
}
