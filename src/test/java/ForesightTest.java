/** Promises 31 to 33: what would come. */
public final class ForesightTest extends Bench {
    private ForesightTest() {
    }

    public static void main(String[] args) {
        aheadIsWhatComes();
        aheadAtBothEnds();
        aheadBeyondTheEndOfTime();
        aheadChangesNothing();
        gainsThatAreTried();
        smallestOfSeveralGains();
        nextTicksOfAGain();
        bestGainIsTheBestOfAll();
        bestGainOfGreatErrors();
        bestGainChangesNothing();
        idealOfABrokenDeadTime();
        idealOfAWholeDeadTime();
        idealFeedbackAndGains();
        idealBeginsAnew();
        idealHasNoLoadAndNoNoise();
        idealChangesNothing();
        idealWithinItsLimits();
        Check.end();
    }

    private static DeadTimeLoop restless(int ticks) {
        DeadTimeLoop x = with("noise=40;mdead=33;limit=90;patience=2;filter=500;");
        x.setSetpoint(700);
        x.setLoad(100);
        x.setSeed(3);
        x.watch(1);
        if (ticks > 0) {
            x.run(ticks);
        }
        return x;
    }

    /** "Returns the present value that a signal would have after further ticks" */
    private static void aheadIsWhatComes() {
        for (int before : new int[] {0, 1, 40, 70}) {
            for (int ticks : new int[] {1, 2, 17, 63, 64, 65, 499, 500}) {
                DeadTimeLoop later = restless(before);
                later.run(ticks);
                DeadTimeLoop x = restless(before);
                for (int signal = 0; signal < 10; signal++) {
                    due("ahead(" + ticks + ", " + signal + ") at " + before,
                        x.ahead(ticks, signal), later.value(signal));
                }
            }
        }
    }

    /** "ticks: 1 to 500", "signal: 0 to 9" */
    private static void aheadAtBothEnds() {
        DeadTimeLoop x = loaded("");
        x.setLoad(5);
        due("ahead(0, 8)", x.ahead(0, Y), INVALID);
        due("ahead(1, 8): y as it is for the next tick", x.ahead(1, Y), 5);
        due("ahead(1, 1): m as in the latest tick", x.ahead(1, M), 0);
        due("ahead(500, 1)", x.ahead(500, M), 5);
        due("ahead(501, 1)", x.ahead(501, M), INVALID);
        due("ahead(1, -1)", x.ahead(1, -1), INVALID);
        due("ahead(1, 10)", x.ahead(1, 10), INVALID);
        x.setSetpoint(77);
        due("ahead(1, 0)", x.ahead(1, R), 77);
        due("ahead(1, 9)", x.ahead(1, MODE), 0);
    }

    /** The document limits the time for run() alone. */
    private static void aheadBeyondTheEndOfTime() {
        DeadTimeLoop x = loaded("");
        runTo(x, 100000);
        x.setLoad(5);
        due("ahead(500, 8) at 100000", x.ahead(500, Y), 5);
        due("run(1) at 100000", x.run(1), CAPACITY);
        due("idealDifference(200) at 100000", x.idealDifference(200), 0);
        Check.holds("bestGain(100) at 100000", x.bestGain(100) >= 0);
        due("time()", x.time(), 100000);
    }

    private static void changesNothing(String label, Call call) {
        for (int part = 0; part < Twins.PARTS; part++) {
            DeadTimeLoop x = busy();
            Check.holds(label + " is no error", call.on(x) > -2000000000);
            Twins.compare("behind " + label, part, x, busy());
        }
    }

    /** ".. if nothing is changed" */
    private static void aheadChangesNothing() {
        changesNothing("ahead(1, 8)", x -> x.ahead(1, 8));
        changesNothing("ahead(500, 0)", x -> x.ahead(500, 0));
    }

    /** m of tick 1 is the setpoint * gain * kp in millionths, and nothing else counts. */
    private static int bestOfTwoTicks(int gain, int setpoint) {
        DeadTimeLoop x = with("ki=0;lag=0;dead=0;mgain=0;kp=333;");
        x.setParameter(2, gain);
        x.setSetpoint(setpoint);
        return x.bestGain(2);
    }

    /** "the gain among 0, 250, 500, ..., 5000" */
    private static void gainsThatAreTried() {
        due("just 250", bestOfTwoTicks(4000, 1000), 250);
        due("just 500", bestOfTwoTicks(2000, 1000), 500);
        due("just 1000", bestOfTwoTicks(1000, 1000), 1000);
        due("just 4000", bestOfTwoTicks(250, 1000), 4000);
        due("just 5000", bestOfTwoTicks(200, 1000), 5000);
        due("nearer to 4750", bestOfTwoTicks(210, 1000), 4750);
        due("beyond 5000", bestOfTwoTicks(100, 1000), 5000);
        due("below 0", bestOfTwoTicks(-1000, 1000), 0);
        due("nearer to 250 than to 0", bestOfTwoTicks(5000, 1000), 250);
        due("nearer to 0 than to 1250", bestOfTwoTicks(5000, -1), 0);
    }

    /** "of several the smallest one" */
    private static void smallestOfSeveralGains() {
        DeadTimeLoop x = new DeadTimeLoop();
        due("all gains are alike", x.bestGain(100), 0);
        due("500 and 750 are 200 away", bestOfTwoTicks(1600, 1000), 500);
        due("750 is nearer", bestOfTwoTicks(1599, 1000), 750);
        due("0 to 750 do nothing, the others too much", bestOfTwoTicks(5000, 1), 0);
        due("a setpoint of 1", bestOfTwoTicks(1000, 1), 1000);
        due("a setpoint of -1", bestOfTwoTicks(1000, -1), 250);
    }

    /** "over the next ticks", "ticks: 1 to 100" */
    private static void nextTicksOfAGain() {
        DeadTimeLoop x = with("ki=0;dead=60;");
        x.setSetpoint(1000);
        due("bestGain(0)", x.bestGain(0), INVALID);
        due("bestGain(1)", x.bestGain(1), 0);
        due("the gain is not felt yet", x.bestGain(7), 0);
        due("it is felt", x.bestGain(8), 5000);
        Check.holds("bestGain(100)", x.bestGain(100) >= 0);
        due("bestGain(101)", x.bestGain(101), INVALID);
        x = with("ki=0;dead=300;lag=0;mgain=0;");
        x.setSetpoint(1000);
        due("31 ticks", x.bestGain(31), 0);
        due("32 ticks", x.bestGain(32), 1000);
    }

    private static DeadTimeLoop tried(int dead) {
        DeadTimeLoop x = with("mdead=20;ki=300;noise=10;kp=777;limit=300;patience=2;");
        x.setParameter(4, dead);
        x.setSetpoint(1000);
        x.run(3);
        return x;
    }

    /** "everything else being unchanged": compared with the loop itself. */
    private static void bestGainIsTheBestOfAll() {
        for (int dead = 0; dead <= 60; dead += 15) {
            for (int ticks : new int[] {1, 20, 99, 100}) {
                due("bestGain(" + ticks + "), dead " + dead, tried(dead).bestGain(ticks),
                    bestOf(dead, ticks));
            }
        }
    }

    private static int bestOf(int dead, int ticks) {
        long least = Long.MAX_VALUE;
        int best = -1;
        for (int gain = 0; gain <= 5000; gain += 250) {
            DeadTimeLoop x = tried(dead);
            x.setParameter(0, gain);
            x.setSetpoint(1000);
            x.run(ticks);
            if (x.measure(0) < least) {
                least = x.measure(0);
                best = gain;
            }
        }
        return best;
    }

    /** u is -100000 from the gain 1000 on; below it m is as far away as 600000. */
    private static void bestGainOfGreatErrors() {
        DeadTimeLoop x = with("ki=0;gain=5000;lag=0;dead=0;mgain=0;umin=-100000;umax=100000;");
        x.setLoad(100000);
        x.setSetpoint(-100000);
        due("the first of the gains that pull hardest", x.bestGain(2), 1000);
    }

    private static void bestGainChangesNothing() {
        changesNothing("bestGain(1)", x -> x.bestGain(1));
        changesNothing("bestGain(100)", x -> x.bestGain(100));
    }

    private static void ideal(String parameters, int... differences) {
        DeadTimeLoop x = open(parameters);
        x.setSetpoint(500);
        for (int n = 0; n < differences.length; n++) {
            due("idealDifference(" + (n + 1) + "), " + parameters, x.idealDifference(n + 1),
                differences[n]);
        }
    }

    /** The ideal y is 0, 500, 0, 500, ..; the actual one goes to 500 in one step or two and stays. */
    private static void idealOfABrokenDeadTime() {
        ideal("dead=5;", 250, 500, 500);
        ideal("dead=9;", 450, 500);
        ideal("dead=1;", 50, 500);
        ideal("dead=11;", 50, 500);
        ideal("dead=15;", 250, 500);
        ideal("dead=299;", 450, 500);
    }

    /** "Let j be dead / 10, rounded down", "for t from 0 to ticks" */
    private static void idealOfAWholeDeadTime() {
        ideal("dead=0;", 0, 500, 500);
        ideal("dead=10;", 0, 500);
        ideal("dead=20;", 0, 500);
        ideal("dead=290;", 0, 500);
        ideal("dead=300;", 0, 500);
        DeadTimeLoop x = open("dead=300;");
        x.setSetpoint(500);
        due("idealDifference(0)", x.idealDifference(0), INVALID);
        due("idealDifference(200)", x.idealDifference(200), 500);
        due("idealDifference(201)", x.idealDifference(201), INVALID);
        x = new DeadTimeLoop();
        x.setSetpoint(1000);
        due("a perfect model", x.idealDifference(200), 0);
        x.setSetpoint(0);
        due("without a setpoint", x.idealDifference(200), 0);
    }

    /** "in which the feedback is always m and the gains are always kp and ki" */
    private static void idealFeedbackAndGains() {
        String common = "kp=1200;ki=150;umax=1100;rate=300;";
        for (int dead : new int[] {0, 9, 10, 37, 300}) {
            DeadTimeLoop x = with(common + "dead=" + dead + ";mdead=30;mgain=800;limit=200;");
            x.setSetpoint(1000);
            for (int ticks : new int[] {1, 2, 30, 199, 200}) {
                due("idealDifference(" + ticks + "), dead " + dead, x.idealDifference(ticks),
                    differenceOfTwo(common, dead, ticks));
            }
        }
    }

    /** Without a model f is m, so that the feedback of the second loop is m and its mode stays 0. */
    private static int differenceOfTwo(String common, int dead, int ticks) {
        DeadTimeLoop actual = with(common + "dead=" + dead + ";mdead=30;mgain=800;limit=200;");
        DeadTimeLoop ideal = with(common + "dead=0;mgain=0;limit=100000;");
        actual.setSetpoint(1000);
        ideal.setSetpoint(1000);
        if (dead >= 10) {
            actual.run(dead / 10);
        }
        int greatest = 0;
        for (int t = 0; t <= ticks; t++) {
            greatest = Math.max(greatest, Math.abs(actual.value(Y) - ideal.value(Y)));
            actual.run(1);
            ideal.run(1);
        }
        return greatest;
    }

    /** "Two loops begin anew with the present parameters and the present setpoint" */
    private static void idealBeginsAnew() {
        DeadTimeLoop x = with("dead=20;mdead=50;mgain=900;limit=70;patience=2;ki=200;");
        x.setSetpoint(900);
        int atOnce = x.idealDifference(60);
        Check.holds("there is a difference", atOnce > 0);
        x.run(33);
        due("the present signals do not matter", x.idealDifference(60), atOnce);
        x.setSetpoint(-400);
        x.run(80);
        x.setSetpoint(900);
        due("the present setpoint matters alone", x.idealDifference(60), atOnce);
        x.setSetpoint(901);
        Check.holds("another setpoint, another difference", x.idealDifference(60) != atOnce);
        x.setSetpoint(900);
        x.setParameter(0, 1100);
        Check.holds("another parameter, another difference", x.idealDifference(60) != atOnce);
    }

    /** "without load and noise" */
    private static void idealHasNoLoadAndNoNoise() {
        DeadTimeLoop x = with("dead=20;mdead=50;mgain=900;limit=70;patience=2;ki=200;");
        x.setSetpoint(900);
        int still = x.idealDifference(60);
        x.setLoad(3000);
        due("with a load", x.idealDifference(60), still);
        x.setSeed(9999);
        x.setParameter(14, 1000);
        due("with a load and noise", x.idealDifference(60), still);
        x.setSetpoint(0);
        due("nothing moves it", x.idealDifference(200), 0);
    }

    private static void idealChangesNothing() {
        changesNothing("idealDifference(1)", x -> x.idealDifference(1));
        changesNothing("idealDifference(200)", x -> x.idealDifference(200));
    }

    /** All else is as in the actual loop: the limits of level and rate hold in the ideal one too. */
    private static void idealWithinItsLimits() {
        DeadTimeLoop x = open("dead=0;umax=70;");
        x.setSetpoint(500);
        due("u is 70 in both", x.idealDifference(9), 0);
        x = open("dead=0;rate=10;");
        x.setSetpoint(500);
        due("u is 10, 20, 30, .. in both", x.idealDifference(9), 0);
    }
}
