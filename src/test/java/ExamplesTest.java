/** The five examples of "Changes and errors", call by call, and the runs that README.md shows. */
public final class ExamplesTest extends Bench {
    private ExamplesTest() {
    }

    public static void main(String[] args) {
        firstTick();
        behindTheDeadTime();
        rejectedModel();
        parametersByAText();
        errors();
        readmeRun();
        readmeModel();
        readmeRefusals();
        Check.end();
    }

    /** "1. The first tick behind a new setpoint" */
    private static void firstTick() {
        DeadTimeLoop x = new DeadTimeLoop();
        due("1. setSetpoint(1000)", x.setSetpoint(1000), 0);
        due("1. run(1)", x.run(1), 1);
        due("1. value(2)", x.value(2), 1100);
        due("1. value(3)", x.value(3), 220);
        due("1. value(8)", x.value(8), 0);
        due("1. recorded(6, 0)", x.recorded(6, 0), 1000);
        due("1. measure(0)", x.measure(0), 1000);
    }

    /** "2. The process follows behind the dead time" */
    private static void behindTheDeadTime() {
        DeadTimeLoop x = new DeadTimeLoop();
        due("2. setSetpoint(1000)", x.setSetpoint(1000), 0);
        due("2. run(7)", x.run(7), 7);
        due("2. value(8)", x.value(8), 367);
        due("2. recorded(4, 0)", x.recorded(4, 0), 220);
        due("2. idealDifference(50)", x.idealDifference(50), 0);
    }

    /** "3. The model is rejected" */
    private static void rejectedModel() {
        DeadTimeLoop x = new DeadTimeLoop();
        due("3. setParameter(7, 0)", x.setParameter(7, 0), 50);
        due("3. setParameter(12, 0)", x.setParameter(12, 0), 5000);
        due("3. setParameter(13, 1)", x.setParameter(13, 1), 5);
        due("3. setSetpoint(1000)", x.setSetpoint(1000), 0);
        due("3. run(2)", x.run(2), 2);
        due("3. value(9)", x.value(9), 1);
    }

    /** "4. Parameters by a text" */
    private static void parametersByAText() {
        DeadTimeLoop x = new DeadTimeLoop();
        due("4. type(107)", x.type(107), 1);
        due("4. type(105)", x.type(105), 2);
        due("4. type(61)", x.type(61), 3);
        due("4. type(53)", x.type(53), 4);
        due("4. type(59)", x.type(59), 5);
        due("4. fault()", x.fault(), -2000000004);
        due("4. assignedAt(0)", x.assignedAt(0), 1);
        due("4. apply()", x.apply(), 1);
        due("4. parameter(1)", x.parameter(1), 5);
        due("4. undo()", x.undo(), 0);
        due("4. parameter(1)", x.parameter(1), 100);
    }

    /** "5. Errors" */
    private static void errors() {
        DeadTimeLoop x = new DeadTimeLoop();
        due("5. setParameter(9, 5)", x.setParameter(9, 5), -2000000001);
        due("5. run(0)", x.run(0), -2000000001);
        due("5. recorded(0, 0)", x.recorded(0, 0), -2000000004);
        due("5. estimatedLag()", x.estimatedLag(), -2000000004);
        due("5. recall()", x.recall(), -2000000002);
    }

    private static void readmeRun() {
        DeadTimeLoop loop = new DeadTimeLoop();
        due("README: setParameter(4, 80)", loop.setParameter(4, 80), 50);
        due("README: setParameter(7, 80)", loop.setParameter(7, 80), 50);
        due("README: setSetpoint(1000)", loop.setSetpoint(1000), 0);
        due("README: watch(2)", loop.watch(2), 1);
        due("README: run(50)", loop.run(50), 50);
        due("README: value(1)", loop.value(1), 950);
        due("README: recorded(1, 30)", loop.recorded(1, 30), 743);
        due("README: extreme(2, 1)", loop.extreme(2, 1), 1100);
        due("README: measure(0)", loop.measure(0), 17314);
        due("README: ahead(20, 1)", loop.ahead(20, 1), 980);
        due("README: time()", loop.time(), 50);
    }

    private static void readmeModel() {
        DeadTimeLoop loop = new DeadTimeLoop();
        write(loop, "dead=80;lag=500;");
        due("README: fault()", loop.fault(), NOT_FOUND);
        due("README: apply()", loop.apply(), 2);
        due("README: setSetpoint(1000)", loop.setSetpoint(1000), 0);
        due("README: run(20)", loop.run(20), 20);
        due("README: estimatedLag()", loop.estimatedLag(), 8);
        due("README: tuneDelay()", loop.tuneDelay(), 80);
        due("README: undo()", loop.undo(), 1);
        due("README: parameter(7)", loop.parameter(7), 50);
    }

    private static void readmeRefusals() {
        DeadTimeLoop loop = new DeadTimeLoop();
        due("README: setParameter(3, 1000)", loop.setParameter(3, 1000),
            DeadTimeLoop.INVALID_ARGUMENT);
        due("README: undo()", loop.undo(), DeadTimeLoop.NOT_POSSIBLE);
        due("README: store()", loop.store(), 1);
        due("README: store()", loop.store(), 2);
        due("README: store()", loop.store(), DeadTimeLoop.CAPACITY_EXCEEDED);
        due("README: recorded(1, 0)", loop.recorded(1, 0), DeadTimeLoop.NOT_FOUND);
    }
}
