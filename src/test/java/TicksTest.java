/** The sentences of "Signals" and "A tick"; the numbers are worked out by hand. */
public final class TicksTest extends Bench {
    private TicksTest() {
    }

    public static void main(String[] args) {
        beforeTheFirstTick();
        wholeDeadTimes();
        brokenDeadTimes();
        delayedValuesAreRoundedDown();
        longestDeadTime();
        everyDeadTime();
        noiseOfTheFirstTicks();
        noiseOfLateTicks();
        noiseIsMeasuredAlone();
        noiseAmplitudes();
        stepsOfTheFilter();
        filterAtItsEnds();
        limitOfTheMismatch();
        limitAtItsEnds();
        patienceOfTheFallback();
        firstTicksAreBad();
        badTicksInARow();
        patienceOfTheReturn();
        goodTicksInARow();
        patienceIsChanged();
        thereAndBack();
        feedbackOfTheModes();
        gainsOfTheFallback();
        gainsOfThePredictor();
        roundedDownParts();
        limitsOfTheLevel();
        limitsOfTheRate();
        rateBehindTheLevel();
        windupAboveTheLevel();
        windupBelowTheLevel();
        windupOfLeastErrors();
        windupAtTheRate();
        stepsOfTheProcess();
        stepsOfTheModel();
        whatATickRecords();
        greatestSignals();
        Check.end();
    }

    /** "x, f, i, y and the mode have values before the first tick, namely 0." */
    private static void beforeTheFirstTick() {
        DeadTimeLoop x = with("filter=500;ki=1000;kp=0;lag=500;mlag=500;");
        for (int signal = 0; signal < 10; signal++) {
            due("value(" + signal + ") before the first tick", x.value(signal), 0);
        }
        x.setSetpoint(100);
        x.run(1);
        due("y of the first tick", x.recorded(Y, 0), 0);
        due("x of the first tick", x.recorded(X, 0), 0);
        due("f of the first tick", x.recorded(F, 0), 0);
        due("i of the first tick begins at 0", x.recorded(I, 0), 100);
        due("the mode of the first tick", x.recorded(MODE, 0), 0);
    }

    /** "j is d / 10 rounded down": the output comes j ticks later, not one sooner. */
    private static void wholeDeadTimes() {
        for (int dead : new int[] {0, 10, 20, 150, 290, 300}) {
            DeadTimeLoop x = open("dead=" + dead + ";");
            x.setSetpoint(500);
            x.run(dead / 10);
            due("y, dead " + dead + ", before", x.value(Y), 0);
            x.run(1);
            due("y, dead " + dead + ", behind", x.value(Y), 500);
            x = with("ki=0;gain=0;mlag=0;mdead=" + dead + ";limit=100000;filter=999;kp=100;");
            x.setSetpoint(500);
            x.run(1 + dead / 10);
            due("p, mdead " + dead + ", before", x.value(P), 0);
            x.run(1);
            due("p, mdead " + dead + ", behind", x.value(P), 50);
        }
    }

    /** "k is d modulo 10": the output comes in two parts. */
    private static void brokenDeadTimes() {
        for (int part = 1; part < 10; part++) {
            for (int whole = 0; whole < 30; whole += 29) {
                int dead = 10 * whole + part;
                DeadTimeLoop x = open("dead=" + dead + ";");
                x.setSetpoint(500);
                x.run(whole);
                due("y, dead " + dead + ", before", x.value(Y), 0);
                x.run(1);
                due("y, dead " + dead + ", first part", x.value(Y), 50 * (10 - part));
                x.run(1);
                due("y, dead " + dead + ", second part", x.value(Y), 500);
            }
        }
        DeadTimeLoop x = open("dead=15;filter=0;");
        x.setSetpoint(1000);
        sees("y behind a dead time of 15 tenths", x, Y, 0, 0, 500, 1000, 750);
        x = with("ki=0;mdead=15;mlag=0;gain=0;");
        x.setSetpoint(1000);
        sees("p behind a dead time of 15 tenths", x, P, 0, 0, 500);
        x = with("ki=0;mdead=5;mlag=0;gain=0;filter=999;");
        x.setSetpoint(600);
        sees("p behind half a tick uses the present x", x, P, 0, 300);
    }

    /** "floor(.. / 10)", "division rounded down, also for negative a" */
    private static void delayedValuesAreRoundedDown() {
        DeadTimeLoop x = open("dead=5;");
        x.setSetpoint(1);
        sees("half of 1", x, Y, 0, 0, 1);
        x = open("dead=5;");
        x.setSetpoint(-1);
        sees("half of -1", x, Y, 0, -1);
        x = open("dead=9;");
        x.setSetpoint(-11);
        sees("a tenth of -11", x, Y, 0, -2);
        x = with("ki=0;gain=0;mlag=0;mdead=9;filter=999;");
        x.setSetpoint(-11);
        sees("a tenth of the model's -11", x, P, 0, -2);
    }

    /** "0 to 300" tenths, and "The records of the latest 64 ticks are kept". */
    private static void longestDeadTime() {
        DeadTimeLoop x = open("dead=300;");
        x.run(70);
        setAndRun(x, 70);
        x.setSetpoint(0);
        x.run(29);
        due("y before the longest dead time has passed", x.value(Y), 0);
        x.run(1);
        due("y behind the longest dead time", x.value(Y), 70);
        x.run(1);
        due("y one tick later", x.value(Y), 0);
        x = open("dead=299;");
        x.run(70);
        setAndRun(x, 700);
        x.setSetpoint(0);
        x.run(29);
        due("a tenth of it, one tick sooner", x.value(Y), 70);
        x.run(1);
        due("nine tenths of it", x.value(Y), 630);
        x.run(1);
        due("y one tick later", x.value(Y), 0);
    }

    private static int delayed(int[] values, int t, int dead) {
        int j = dead / 10;
        int k = dead % 10;
        int newer = t - j < 0 ? 0 : values[t - j];
        int older = t - j - 1 < 0 ? 0 : values[t - j - 1];
        return Math.floorDiv(newer * (10 - k) + older * k, 10);
    }

    private static int[] records(DeadTimeLoop x, int signal, int first) {
        int[] values = new int[x.time()];
        for (int t = first; t < values.length; t++) {
            values[t] = x.recorded(signal, values.length - 1 - t);
        }
        return values;
    }

    /** All dead times, from the first tick on and behind the wrap-around of the records. */
    private static void everyDeadTime() {
        for (int dead = 0; dead <= 300; dead++) {
            delaysAreRight(restless(dead), dead, 0);
            DeadTimeLoop x = restless(dead);
            x.run(67);
            delaysAreRight(x, dead, 67);
        }
    }

    private static DeadTimeLoop restless(int dead) {
        DeadTimeLoop x = with("ki=0;lag=0;limit=100000;mlag=300;mgain=-700;filter=200;kp=300;");
        x.setParameter(4, dead);
        x.setParameter(7, 300 - dead);
        for (int n = 0; n < 16; n++) {
            x.setSetpoint(n * n * 137 % 2001 - 1000);
            x.run(4);
        }
        return x;
    }

    /** y is the delayed u of the tick before, for the process follows at once; p is the delayed x. */
    private static void delaysAreRight(DeadTimeLoop x, int dead, int first) {
        int[] u = records(x, U, first);
        int[] y = records(x, Y, first);
        int[] model = records(x, X, first);
        int[] p = records(x, P, first);
        for (int t = first == 0 ? 0 : first + 31; t < x.time(); t++) {
            due("p of tick " + t + ", mdead " + (300 - dead), p[t], delayed(model, t, 300 - dead));
            if (t > 0) {
                due("y of tick " + t + ", dead " + dead, y[t], delayed(u, t - 1, dead));
            }
        }
    }

    /** "x1 = 7919 * t + 6151 * seed + 1 and N = the parameter noise" */
    private static void noiseOfTheFirstTicks() {
        DeadTimeLoop x = loaded("noise=10;");
        sees("noise with the seed 0", x, M, -9, 8, 9, -7, 3, -3);
        x = loaded("noise=1000;");
        sees("greatest noise with the seed 0", x, M, -999, -208, 504, -352, 714, -300);
        x = loaded("noise=10;");
        x.setSeed(1);
        sees("noise with the seed 1", x, M, 2, -6, -10, -8, -2, 9);
        x = loaded("noise=10;");
        x.setSeed(9999);
        sees("noise with the seed 9999", x, M, 1, 7, -4, -10, 10, -7);
        x = loaded("noise=1000;");
        x.setSeed(9999);
        sees("greatest noise with the seed 9999", x, M, 181, 313, 878, -637, -230, 98);
    }

    /** "(long arithmetic)": from tick 5860 on the square is beyond the ints. */
    private static void noiseOfLateTicks() {
        DeadTimeLoop x = loaded("noise=1000;");
        runTo(x, 5859);
        sees("noise about tick 5860", x, M, 456, 250, -35);
        runTo(x, 46340);
        sees("noise about tick 46340", x, M, -360, 592);
        runTo(x, 99998);
        sees("noise of the last ticks", x, M, -797, 245);
        x = loaded("noise=1000;");
        x.setSeed(9999);
        runTo(x, 99998);
        sees("noise of the last ticks, seed 9999", x, M, 419, -687);
    }

    /** "m is y, plus the noise" */
    private static void noiseIsMeasuredAlone() {
        DeadTimeLoop x = loaded("noise=10;");
        x.setLoad(300);
        sees("m of the load 300", x, M, -9, 308, 309);
        due("y has no noise", x.recorded(Y, 0), 300);
        x.setParameter(14, 0);
        sees("m without noise", x, M, 300);
    }

    /** "minus N": from -N to N, both of them. */
    private static void noiseAmplitudes() {
        DeadTimeLoop x = loaded("noise=0;");
        sees("no noise", x, M, 0, 0, 0, 0, 0, 0);
        x = loaded("noise=1;");
        sees("noise of 1", x, M, 0, -1, 0, -1, 0, 0, 1);
        x = loaded("noise=1000;");
        x.setSeed(816);
        sees("the greatest noise", x, M, 1000);
        x = loaded("noise=1000;");
        x.run(1);
        x.setSeed(45);
        sees("the least noise", x, M, -1000);
    }

    /** "f steps towards the mismatch with the weight 1000 - filter." */
    private static void stepsOfTheFilter() {
        DeadTimeLoop x = loaded("filter=500;");
        x.setLoad(3);
        sees("half of the way to 3", x, F, 0, 1, 2, 2, 2);
        x = loaded("filter=500;");
        x.setLoad(-3);
        sees("half of the way to -3", x, F, 0, -2, -3, -3);
        x = loaded("filter=750;");
        x.setLoad(200);
        sees("a quarter of the way to 200", x, F, 0, 50, 87);
        x = with("kp=1000;ki=0;lag=0;dead=300;mlag=0;mdead=0;filter=250;limit=9999;");
        setAndRun(x, 1000);
        due("x", x.value(X), 1000);
        sees("the mismatch is m - p, -1000", x, F, -750);
    }

    /** "filter, 0 to 999" */
    private static void filterAtItsEnds() {
        DeadTimeLoop x = loaded("filter=0;");
        x.setLoad(1234);
        sees("all of the way at once", x, F, 0, 1234, 1234);
        int[] loads = {999, 1000, -1, -1000, -1001};
        int[] steps = {0, 1, -1, -1, -2};
        for (int n = 0; n < loads.length; n++) {
            x = loaded("filter=999;");
            x.setLoad(loads[n]);
            sees("a thousandth of the way to " + loads[n], x, F, 0, steps[n]);
        }
    }

    private static void modeAt(String parameters, int load, int mode) {
        DeadTimeLoop x = loaded(parameters + "patience=1;");
        x.setLoad(load);
        sees("the mode, " + parameters + " load " + load, x, MODE, 0, mode);
    }

    /** "If the absolute value of the mismatch is greater than limit" */
    private static void limitOfTheMismatch() {
        modeAt("limit=10;", 9, 0);
        modeAt("limit=10;", 10, 0);
        modeAt("limit=10;", 11, 1);
        modeAt("limit=10;", -10, 0);
        modeAt("limit=10;", -11, 1);
        DeadTimeLoop x = with("ki=0;dead=300;mlag=0;mdead=0;limit=999;patience=1;");
        x.setSetpoint(999);
        sees("m - p is -999", x, MODE, 0, 0);
        x = with("ki=0;dead=300;mlag=0;mdead=0;limit=998;patience=1;");
        x.setSetpoint(999);
        sees("m - p is less than -998", x, MODE, 0, 1);
    }

    /** "limit, 0 to 100000" */
    private static void limitAtItsEnds() {
        modeAt("limit=0;", 0, 0);
        modeAt("limit=0;", 1, 1);
        modeAt("limit=0;", -1, 1);
        modeAt("limit=100000;", 100000, 0);
        modeAt("limit=100000;", -100000, 0);
        modeAt("limit=100000;gain=1001;", 99901, 0);
        modeAt("limit=100000;gain=1001;", 99902, 1);
        modeAt("limit=100000;gain=-1001;", 99900, 0);
        modeAt("limit=100000;gain=-1001;", 99901, 1);
        modeAt("limit=100000;gain=-1001;", 99902, 1);
    }

    /** "In the mode 0, if the number of bad ticks is at least patience, the mode becomes 1." */
    private static void patienceOfTheFallback() {
        for (int patience : new int[] {1, 2, 3, 49, 50}) {
            DeadTimeLoop x = loaded("limit=9;patience=" + patience + ";");
            x.setLoad(10);
            x.run(patience);
            due("patience " + patience + ", one bad tick too few", x.value(MODE), 0);
            x.run(1);
            due("patience " + patience + ", bad ticks enough", x.value(MODE), 1);
        }
    }

    /** "(both are 0 initially)": the noise of the first ticks is -9, 8, 9 and -7. */
    private static void firstTicksAreBad() {
        sees("a good tick first", loaded("noise=10;limit=9;patience=1;"), MODE, 0, 0, 0);
        sees("patience 1", loaded("noise=10;limit=6;patience=1;"), MODE, 1);
        sees("patience 2", loaded("noise=10;limit=6;patience=2;"), MODE, 0, 1);
        sees("patience 3", loaded("noise=10;limit=6;patience=3;"), MODE, 0, 0, 1);
        sees("patience 4", loaded("noise=10;limit=6;patience=4;"), MODE, 0, 0, 0, 1);
    }

    /** "otherwise the number of good ticks grows by 1 and that of bad ticks becomes 0" */
    private static void badTicksInARow() {
        DeadTimeLoop x = loaded("limit=9;patience=3;");
        loadAndRun(x, 10);
        loadAndRun(x, 10);
        loadAndRun(x, 0);
        due("two bad ticks", x.value(MODE), 0);
        loadAndRun(x, 10);
        loadAndRun(x, 10);
        loadAndRun(x, 10);
        due("two bad ticks behind a good one", x.value(MODE), 0);
        loadAndRun(x, 0);
        due("three bad ticks behind it", x.value(MODE), 1);
    }

    /** In the mode 1, the load being 0: the next tick is the first good one. */
    private static DeadTimeLoop fallenBack(int patience) {
        DeadTimeLoop x = loaded("limit=9;patience=" + patience + ";");
        x.setLoad(10);
        x.run(patience);
        loadAndRun(x, 0);
        due("the mode", x.value(MODE), 1);
        return x;
    }

    /** "In the mode 1, if the number of good ticks is at least 2 * patience, the mode becomes 0." */
    private static void patienceOfTheReturn() {
        for (int patience : new int[] {1, 2, 3, 49, 50}) {
            DeadTimeLoop x = fallenBack(patience);
            x.run(2 * patience - 1);
            due("patience " + patience + ", one good tick too few", x.value(MODE), 1);
            x.run(1);
            due("patience " + patience + ", good ticks enough", x.value(MODE), 0);
        }
    }

    /** "the number of bad ticks grows by 1 and that of good ticks becomes 0" */
    private static void goodTicksInARow() {
        DeadTimeLoop x = fallenBack(2);
        x.run(2);
        loadAndRun(x, -10);
        due("three good ticks", x.value(MODE), 1);
        loadAndRun(x, 0);
        x.run(3);
        due("three good ticks behind a bad one", x.value(MODE), 1);
        x.run(1);
        due("four good ticks behind it", x.value(MODE), 0);
    }

    /** "at least": the patience may have become less than the number meanwhile. */
    private static void patienceIsChanged() {
        DeadTimeLoop x = loaded("limit=9;patience=5;");
        x.setLoad(10);
        x.run(4);
        x.setParameter(13, 2);
        due("no tick, no change of the mode", x.value(MODE), 0);
        x.run(1);
        due("the fourth bad tick", x.value(MODE), 1);
        x = fallenBack(5);
        x.run(6);
        x.setParameter(13, 2);
        due("no tick, no change of the mode", x.value(MODE), 1);
        x.run(1);
        due("the seventh good tick", x.value(MODE), 0);
        x = loaded("limit=9;patience=3;");
        x.setLoad(10);
        x.run(3);
        x.setParameter(13, 4);
        x.run(1);
        due("the third bad tick of four", x.value(MODE), 0);
        x.run(1);
        due("the fourth bad tick of four", x.value(MODE), 1);
    }

    /** "After a change of the mode both numbers are 0." */
    private static void thereAndBack() {
        DeadTimeLoop x = loaded("limit=9;patience=2;");
        x.run(10);
        x.setLoad(10);
        sees("ten good ticks, two bad ones", x, MODE, 0, 0, 1);
        x.setLoad(0);
        sees("a bad one, four good ones", x, MODE, 1, 1, 1, 1, 0);
        x.setLoad(10);
        sees("a good one, two bad ones", x, MODE, 0, 0, 1, 1, 1);
        x.setLoad(0);
        sees("a bad one, four good ones", x, MODE, 1, 1, 1, 1, 0, 0);
    }

    /** In the mode 1 for as long as u has not come through; m is 1000, x and f are not. */
    private static DeadTimeLoop rejected(String more) {
        DeadTimeLoop x = with("lag=0;mlag=0;dead=300;mdead=300;kp=0;ki=0;limit=0;patience=1;"
            + "filter=999;");
        x.setLoad(1000);
        x.run(2);
        due("the mode", x.value(MODE), 1);
        write(x, more);
        x.apply();
        return x;
    }

    /** "In the mode 0 the feedback is x + f ..; in the mode 1 the feedback is m" */
    private static void feedbackOfTheModes() {
        DeadTimeLoop x = rejected("kp=0;");
        setAndRun(x, 3000);
        due("e of the mode 1", x.recorded(E, 0), 2000);
        x = with("kp=500;ki=0;lag=0;dead=300;mlag=0;mdead=300;filter=500;");
        x.setLoad(100);
        setAndRun(x, 1000);
        due("e of the first tick", x.recorded(E, 0), 1000);
        x.run(1);
        due("e is r - (x + f), 1000 - (500 + 50)", x.recorded(E, 0), 450);
    }

    private static void fallbackSees(String gains, int error, int output, int integral) {
        DeadTimeLoop x = rejected(gains);
        setAndRun(x, 1000 + error);
        due("u of the mode 1, " + gains + " e " + error, x.recorded(U, 0), output);
        due("i of the mode 1, " + gains + " e " + error, x.recorded(I, 0), integral);
    }

    /** "and the gains are kp / 2 and ki / 4, rounded down" */
    private static void gainsOfTheFallback() {
        fallbackSees("kp=1;", 1000, 0, 0);
        fallbackSees("kp=2;", 1000, 1, 0);
        fallbackSees("kp=3;", 1000, 1, 0);
        fallbackSees("kp=4;", 1000, 2, 0);
        fallbackSees("kp=20000;", 1000, 10000, 0);
        fallbackSees("ki=3;", 1000, 0, 0);
        fallbackSees("ki=4;", 1000, 1, 1);
        fallbackSees("ki=7;", 1000, 1, 1);
        fallbackSees("ki=8;", 1000, 2, 2);
        fallbackSees("ki=20000;", 1000, 5000, 5000);
        fallbackSees("kp=1999;", 1, 0, 0);
        fallbackSees("kp=2000;", 1, 1, 0);
        fallbackSees("kp=3;ki=4;", -1, -2, -1);
    }

    private static void predictorSees(String gains, int error, int output, int integral) {
        DeadTimeLoop x = silent("");
        write(x, gains);
        x.apply();
        setAndRun(x, error);
        due("u of the mode 0, " + gains + " e " + error, x.recorded(U, 0), output);
        due("i of the mode 0, " + gains + " e " + error, x.recorded(I, 0), integral);
    }

    private static void gainsOfThePredictor() {
        predictorSees("kp=1;", 1000, 1, 0);
        predictorSees("kp=3;", 1000, 3, 0);
        predictorSees("kp=0;ki=3;", 1000, 3, 3);
        predictorSees("kp=20000;ki=20000;", 1000, 40000, 20000);
    }

    /** "P be floor(gain kp * e / 1000), and J be i + floor(gain ki * e / 1000)" */
    private static void roundedDownParts() {
        predictorSees("kp=500;", 1, 0, 0);
        predictorSees("kp=500;", -1, -1, 0);
        predictorSees("kp=999;", 1, 0, 0);
        predictorSees("kp=1000;", 1, 1, 0);
        predictorSees("kp=1;", -1000, -1, 0);
        predictorSees("kp=1;", -1001, -2, 0);
        predictorSees("kp=0;ki=999;", 1, 0, 0);
        predictorSees("kp=0;ki=1;", -1, -1, -1);
        predictorSees("kp=600;ki=600;", 1, 0, 0);
        DeadTimeLoop x = silent("kp=0;");
        x.setParameter(1, 500);
        x.setSetpoint(3);
        sees("i grows by 1 each tick", x, I, 1, 2, 3);
    }

    private static void levelSees(int setpoint, int output) {
        DeadTimeLoop x = silent("umin=-30;umax=100;");
        setAndRun(x, setpoint);
        due("u for " + setpoint, x.value(U), output);
    }

    /** "limited at first to the range from umin to umax" */
    private static void limitsOfTheLevel() {
        levelSees(99, 99);
        levelSees(100, 100);
        levelSees(101, 100);
        levelSees(100000, 100);
        levelSees(-29, -29);
        levelSees(-30, -30);
        levelSees(-31, -30);
        levelSees(-100000, -30);
        DeadTimeLoop x = silent("umin=0;umax=0;");
        setAndRun(x, 5);
        due("u between 0 and 0", x.value(U), 0);
        setAndRun(x, -5);
        due("u between 0 and 0", x.value(U), 0);
        x = silent("umin=-100000;umax=100000;kp=2000;");
        setAndRun(x, 99999);
        due("the greatest u", x.value(U), 100000);
        setAndRun(x, -99999);
        due("the least u", x.value(U), -100000);
    }

    private static void rateSees(int first, int second, int output) {
        DeadTimeLoop x = silent("rate=70;");
        setAndRun(x, first);
        due("u for " + first, x.value(U), Math.max(-70, Math.min(70, first)));
        setAndRun(x, second);
        due("u for " + second + " behind " + first, x.value(U), output);
    }

    /** "then to the range from the previous u - rate to the previous u + rate (u is 0 before ..)" */
    private static void limitsOfTheRate() {
        rateSees(69, 0, 0);
        rateSees(70, 140, 140);
        rateSees(71, 141, 140);
        rateSees(70, 139, 139);
        rateSees(70, 1, 1);
        rateSees(70, 0, 0);
        rateSees(70, -1, 0);
        rateSees(-70, -140, -140);
        rateSees(-71, -141, -140);
        DeadTimeLoop x = silent("rate=1;");
        x.setSetpoint(500);
        sees("the least rate", x, U, 1, 2, 3);
        x = silent("rate=200000;umin=-100000;umax=100000;");
        x.setSetpoint(100000);
        x.run(1);
        x.setSetpoint(-100000);
        sees("the greatest rate", x, U, -100000);
        x = silent("rate=199999;umin=-100000;umax=100000;");
        x.setSetpoint(100000);
        x.run(1);
        x.setSetpoint(-100000);
        sees("one less", x, U, -99999, -100000);
    }

    /** "at first .. and then": the rate has the last word. */
    private static void rateBehindTheLevel() {
        DeadTimeLoop x = silent("umax=100;rate=70;");
        x.setSetpoint(500);
        sees("the rate, then umax", x, U, 70, 100);
        x.setParameter(10, 0);
        sees("u may leave its range only slowly", x, U, 30, 0);
        x.setSetpoint(-500);
        sees("the rate downwards", x, U, -70, -140);
        x.setParameter(9, 0);
        sees("u above umin only slowly", x, U, -70, 0);
    }

    /** i grows by the setpoint, and u is i. */
    private static DeadTimeLoop integrating(String more) {
        DeadTimeLoop x = silent("kp=0;" + more);
        x.setParameter(1, 1000);
        return x;
    }

    /** "If u is less than the wanted output and e is above 0, .. i stays as it is" */
    private static void windupAboveTheLevel() {
        DeadTimeLoop x = integrating("umin=-100;umax=100;");
        x.setSetpoint(100);
        sees("just umax is not held", x, I, 100);
        x = integrating("umin=-100;umax=100;");
        x.setSetpoint(101);
        sees("one above umax is held", x, I, 0);
        x.setSetpoint(60);
        sees("60, then 120 is held", x, I, 60, 60);
        x.setParameter(10, 0);
        x.setSetpoint(-10);
        sees("e is below 0: i falls although u is held below", x, I, 50, 40);
        due("u", x.value(U), 0);
        x.setSetpoint(0);
        sees("e is 0: i stays", x, I, 40);
    }

    /** "or u is greater than the wanted output and e is below 0, i stays as it is" */
    private static void windupBelowTheLevel() {
        DeadTimeLoop x = integrating("umin=-100;umax=100;");
        x.setSetpoint(-100);
        sees("just umin is not held", x, I, -100);
        x = integrating("umin=-100;umax=100;");
        x.setSetpoint(-101);
        sees("one below umin is held", x, I, 0);
        x.setSetpoint(-60);
        sees("-60, then -120 is held", x, I, -60, -60);
        x.setParameter(9, 0);
        x.setSetpoint(10);
        sees("e is above 0: i grows although u is held above", x, I, -50, -40);
        due("u", x.value(U), 0);
        x.setSetpoint(0);
        sees("e is 0: i stays", x, I, -40);
    }

    /** "e is above 0", "e is below 0": 1 and -1 are. */
    private static void windupOfLeastErrors() {
        DeadTimeLoop x = integrating("umax=0;");
        x.setSetpoint(1);
        sees("e is 1, u is held below", x, I, 0, 0);
        x.setSetpoint(-1);
        sees("e is -1, u is as wanted", x, I, -1, -2);
        x = integrating("umin=0;");
        x.setSetpoint(-1);
        sees("e is -1, u is held above", x, I, 0, 0);
        x.setSetpoint(1);
        sees("e is 1, u is as wanted", x, I, 1, 2);
    }

    private static DeadTimeLoop held(int rate) {
        DeadTimeLoop x = integrating("");
        x.setParameter(0, 1000);
        x.setSetpoint(100);
        sees("u of P 100 and J 100", x, U, 200);
        x.setParameter(11, rate);
        return x;
    }

    private static void windupAtTheRate() {
        DeadTimeLoop x = integrating("rate=50;");
        x.setSetpoint(50);
        sees("just the rate is not held", x, I, 50);
        x = integrating("rate=50;");
        x.setSetpoint(51);
        sees("one above the rate is held", x, I, 0);
        x = held(50);
        x.setSetpoint(-10);
        sees("u is 150, above 80, e is below 0", x, I, 100);
        x = held(50);
        x.setSetpoint(10);
        sees("u is 150, above 120, e is above 0", x, I, 110);
        x = held(120);
        x.setSetpoint(-10);
        sees("u is 80, as wanted", x, I, 90);
    }

    private static void processSees(String parameters, int load, int value) {
        DeadTimeLoop x = with("kp=0;ki=0;" + parameters);
        loadAndRun(x, load);
        due("y, " + parameters + " load " + load, x.value(Y), value);
        due("m has not seen it yet", x.value(M), 0);
    }

    /** "y steps towards floor(gain * (v + load) / 1000) with the weight 1000 - lag." */
    private static void stepsOfTheProcess() {
        processSees("lag=0;", 77, 77);
        processSees("lag=999;", 999, 0);
        processSees("lag=999;", 1000, 1);
        processSees("lag=999;", -1, -1);
        processSees("lag=800;", 4, 0);
        processSees("lag=800;", 5, 1);
        processSees("lag=0;gain=-500;", 3, -2);
        processSees("lag=0;gain=-500;", 2, -1);
        processSees("lag=0;gain=1500;", 1, 1);
        processSees("lag=0;gain=0;", 100000, 0);
        processSees("lag=0;gain=5000;", 100000, 500000);
        processSees("lag=0;gain=-5000;", 100000, -500000);
        DeadTimeLoop x = with("ki=0;dead=0;lag=900;gain=2000;mgain=0;filter=750;");
        x.setSetpoint(1000);
        x.run(1);
        due("a tenth of the way to 2000", x.value(Y), 200);
        x.run(1);
        due("f makes a quarter of the step to 200", x.value(F), 50);
        due("u is 1000 - 50", x.value(U), 950);
        due("y steps from 200 towards 1900", x.value(Y), 370);
    }

    private static void modelSees(String parameters, int output, int value) {
        DeadTimeLoop x = with("ki=0;dead=300;" + parameters);
        x.setLoad(4321);
        setAndRun(x, output);
        due("u", x.value(U), output);
        due("x, " + parameters + " u " + output, x.value(X), value);
        due("x of the tick", x.recorded(X, 0), 0);
    }

    /** "x steps towards floor(mgain * u / 1000) with the weight 1000 - mlag": without load. */
    private static void stepsOfTheModel() {
        modelSees("mlag=0;", 77, 77);
        modelSees("mlag=999;", 999, 0);
        modelSees("mlag=999;", 1000, 1);
        modelSees("mlag=999;", -1, -1);
        modelSees("mlag=0;mgain=-500;", 3, -2);
        modelSees("mlag=0;mgain=-500;", 2, -1);
        modelSees("mlag=0;mgain=1500;", 1, 1);
        modelSees("mlag=0;mgain=0;", 50000, 0);
        modelSees("mlag=0;mgain=5000;", 50000, 250000);
        modelSees("mlag=0;mgain=-5000;", 50000, -250000);
    }

    /** "y and x with the values that they had before step 5, and the mode .. behind step 3" */
    private static void whatATickRecords() {
        DeadTimeLoop x = with("ki=0;dead=0;lag=0;mlag=0;mdead=300;limit=10;patience=1;");
        setAndRun(x, 10);
        due("y of the tick", x.recorded(Y, 0), 0);
        due("y of the next", x.value(Y), 10);
        due("x of the tick", x.recorded(X, 0), 0);
        due("x of the next", x.value(X), 10);
        x.setLoad(50);
        x.run(1);
        due("y of the tick", x.recorded(Y, 0), 10);
        due("x of the tick", x.recorded(X, 0), 10);
        due("the mode of the tick", x.recorded(MODE, 0), 0);
        x.run(1);
        due("the mode that the tick itself has turned", x.recorded(MODE, 0), 1);
        due("the mode before", x.recorded(MODE, 1), 0);
    }

    /** The greatest numbers that the ranges allow stay whole. */
    private static void greatestSignals() {
        DeadTimeLoop x = with("kp=20000;ki=20000;gain=5000;lag=0;dead=0;mgain=-5000;mlag=0;");
        write(x, "umin=-100000;umax=100000;mdead=0;limit=100000;patience=50;noise=1000;");
        x.apply();
        x.setLoad(100000);
        setAndRun(x, 100000);
        due("y is 5 * (100000 + 100000)", x.value(Y), 1000000);
        due("x is -5 * 100000", x.value(X), -500000);
        due("i is held", x.value(I), 0);
        x.setParameter(14, 0);
        x.run(1);
        due("f is 1000000 + 500000", x.value(F), 1500000);
        due("e is 100000 - (1500000 - 500000)", x.value(E), -900000);
        due("u", x.value(U), -100000);
        due("i is held below", x.value(I), 0);
    }
}
