/**
 * "A call that returns an error changes nothing", and the order of errors: for each error of each
 * promise the last argument or state that is refused and the first that is not, on both sides.
 */
public final class RefusalsTest extends Bench {
    /** A call with one argument, or with the others held. */
    interface Asked {
        long on(DeadTimeLoop x, int argument);
    }

    private RefusalsTest() {
    }

    public static void main(String[] args) {
        setParameter();
        parameter();
        nameAt();
        undo();
        levels();
        type();
        apply();
        assigned();
        assignedAt();
        run();
        value();
        recorded();
        watch();
        unwatch();
        watchedAt();
        extreme();
        measure();
        settledTicks();
        store();
        recall();
        estimation();
        tuneDelay();
        foresight();
        orderOfErrors();
        Check.end();
    }

    /** The arguments next to both ends of a range, and the ends of the ints. */
    private static void range(String label, int least, int greatest, Asked call) {
        int[] wrong = {least - 1, greatest + 1, Integer.MIN_VALUE, Integer.MAX_VALUE};
        for (int argument : wrong) {
            invalid(label + " with " + argument, x -> call.on(x, argument));
        }
        valid(label + " with " + least, x -> call.on(x, least));
        valid(label + " with " + greatest, x -> call.on(x, greatest));
    }

    /** An index has no upper end: the greatest int is not out of range. */
    private static void index(String label, Asked call) {
        invalid(label + " with -1", x -> call.on(x, -1));
        invalid(label + " with the least int", x -> call.on(x, Integer.MIN_VALUE));
        valid(label + " with 0", x -> call.on(x, 0));
        valid(label + " with the greatest int", x -> call.on(x, Integer.MAX_VALUE));
    }

    /** Promise 2: "INVALID_ARGUMENT if an argument is out of range". */
    private static void setParameter() {
        range("setParameter(.., 1)", 0, 14, (x, parameter) ->
            x.setParameter(parameter, parameter == 9 ? -1 : 1));
        for (int p = 0; p < 15; p++) {
            int parameter = p;
            range("setParameter(" + p + ", ..)", RANGES[p][0], RANGES[p][1],
                (x, value) -> x.setParameter(parameter, value));
        }
        invalid("both arguments wrong", x -> x.setParameter(15, -1));
    }

    /** Promise 3: "INVALID_ARGUMENT if parameter is out of range". */
    private static void parameter() {
        range("parameter", 0, 14, DeadTimeLoop::parameter);
    }

    /** Promise 4: "INVALID_ARGUMENT if an argument is out of range; NOT_FOUND if ..". */
    private static void nameAt() {
        range("nameAt(.., 0)", 0, 14, (x, parameter) -> x.nameAt(parameter, 0));
        range("nameAt(.., 99)", 0, 14, (x, parameter) -> x.nameAt(parameter, 99));
        index("nameAt(3, ..)", (x, at) -> x.nameAt(3, at));
        invalid("nameAt(15, -1)", x -> x.nameAt(15, -1));
        for (int p = 0; p < 15; p++) {
            int parameter = p;
            int length = NAMES[p].length();
            refused("nameAt(" + p + ", " + length + ")", Bench::busy,
                x -> x.nameAt(parameter, length), NOT_FOUND);
        }
        refused("nameAt(3, the greatest int)", Bench::full,
            x -> x.nameAt(3, Integer.MAX_VALUE), NOT_FOUND);
    }

    private static DeadTimeLoop busyWithoutChanges() {
        DeadTimeLoop x = busy();
        while (x.undo() > 0) {
            due("one is left", x.parameter(13), 3);
        }
        return x;
    }

    /** Promise 5: "NOT_POSSIBLE if there is none". */
    private static void undo() {
        refused("undo() of a new loop", DeadTimeLoop::new, DeadTimeLoop::undo, NOT_POSSIBLE);
        refused("undo() behind all", RefusalsTest::busyWithoutChanges, DeadTimeLoop::undo,
            NOT_POSSIBLE);
    }

    /** Promises 6, 7 and 8: "INVALID_ARGUMENT if value is out of range". */
    private static void levels() {
        range("setSetpoint", -100000, 100000, DeadTimeLoop::setSetpoint);
        range("setLoad", -100000, 100000, DeadTimeLoop::setLoad);
        range("setSeed", 0, 9999, DeadTimeLoop::setSeed);
    }

    /** Promise 9: "CAPACITY_EXCEEDED if the text has 80 characters". */
    private static void type() {
        range("type", 32, 126, DeadTimeLoop::type);
        refused("type(32), the 81st", Bench::full, x -> x.type(32), CAPACITY);
        refused("type(126), the 81st", Bench::full, x -> x.type(126), CAPACITY);
        refused("type(59) behind 80 right ones", RefusalsTest::rightTo80, x -> x.type(';'),
            CAPACITY);
    }

    private static DeadTimeLoop rightTo80() {
        DeadTimeLoop x = new DeadTimeLoop();
        for (int n = 0; n < 16; n++) {
            write(x, "kp=" + n % 10 + ";");
        }
        return x;
    }

    private static DeadTimeLoop faulty() {
        DeadTimeLoop x = busy();
        write(x, "ki=20001;");
        return x;
    }

    private static DeadTimeLoop textless() {
        DeadTimeLoop x = busy();
        x.clearText();
        return x;
    }

    /** Promise 12: "NOT_POSSIBLE if the text has a fault or is empty"; Promise 11: NOT_FOUND. */
    private static void apply() {
        refused("apply() of an empty text", RefusalsTest::textless, DeadTimeLoop::apply,
            NOT_POSSIBLE);
        refused("apply() with a fault behind right ones", RefusalsTest::faulty,
            DeadTimeLoop::apply, NOT_POSSIBLE);
        refused("apply() of 80 wrong characters", Bench::full, DeadTimeLoop::apply, NOT_POSSIBLE);
        refused("fault() of a right text", Bench::busy, DeadTimeLoop::fault, NOT_FOUND);
        refused("fault() of an empty text", RefusalsTest::textless, DeadTimeLoop::fault, NOT_FOUND);
    }

    /** Promise 13: "NOT_POSSIBLE if the text has a fault". */
    private static void assigned() {
        refused("assigned() with a fault", RefusalsTest::faulty, DeadTimeLoop::assigned,
            NOT_POSSIBLE);
        due("assigned() without one", busy().assigned(), 2);
        due("assigned() of an empty text", textless().assigned(), 0);
    }

    /** Promise 14: three errors, INVALID_ARGUMENT before NOT_POSSIBLE before NOT_FOUND. */
    private static void assignedAt() {
        index("assignedAt", DeadTimeLoop::assignedAt);
        invalid("assignedAt(-1)", x -> x.assignedAt(-1));
        refused("assignedAt(-1) with a fault", RefusalsTest::faulty, x -> x.assignedAt(-1), INVALID);
        refused("assignedAt(0) with a fault", RefusalsTest::faulty, x -> x.assignedAt(0),
            NOT_POSSIBLE);
        refused("assignedAt(2) with a fault", RefusalsTest::faulty, x -> x.assignedAt(2),
            NOT_POSSIBLE);
        refused("assignedAt(2) of two", Bench::busy, x -> x.assignedAt(2), NOT_FOUND);
        due("assignedAt(1) of two", busy().assignedAt(1), 1);
        refused("assignedAt(0) of none", RefusalsTest::textless, x -> x.assignedAt(0), NOT_FOUND);
    }

    private static DeadTimeLoop at(int time) {
        DeadTimeLoop x = with("kp=300;noise=9;");
        x.setSetpoint(50);
        runTo(x, time);
        return x;
    }

    /** Promise 15: "CAPACITY_EXCEEDED if the time would be greater than 100000". */
    private static void run() {
        range("run", 1, 500, DeadTimeLoop::run);
        refused("run(500) at 99501", () -> at(99501), x -> x.run(500), CAPACITY);
        due("run(500) at 99500", at(99500).run(500), 100000);
        refused("run(2) at 99999", () -> at(99999), x -> x.run(2), CAPACITY);
        due("run(1) at 99999", at(99999).run(1), 100000);
        DeadTimeLoop x = at(100000);
        due("run(1) at 100000", x.run(1), CAPACITY);
        due("run(500) at 100000", x.run(500), CAPACITY);
        due("run(0) at 100000", x.run(0), INVALID);
        due("run(501) at 100000", x.run(501), INVALID);
        due("time()", x.time(), 100000);
        due("ticks of the section", x.measure(3), 100000);
    }

    /** Promise 17: "INVALID_ARGUMENT if signal is out of range". */
    private static void value() {
        range("value", 0, 9, DeadTimeLoop::value);
    }

    /** Promise 18: INVALID_ARGUMENT before "NOT_FOUND if there have not been so many ticks". */
    private static void recorded() {
        range("recorded(.., 0)", 0, 9, (x, signal) -> x.recorded(signal, 0));
        range("recorded(.., 63)", 0, 9, (x, signal) -> x.recorded(signal, 63));
        range("recorded(0, ..)", 0, 63, (x, ago) -> x.recorded(0, ago));
        refused("recorded(1, 0) of none", DeadTimeLoop::new, x -> x.recorded(1, 0), NOT_FOUND);
        refused("recorded(1, 13) of 13", Bench::full, x -> x.recorded(1, 13), NOT_FOUND);
        refused("recorded(1, 63) of 13", Bench::full, x -> x.recorded(1, 63), NOT_FOUND);
        due("recorded(0, 12) of 13", full().recorded(0, 12), -700);
    }

    /** Promise 20: "CAPACITY_EXCEEDED if 4 other signals are watched". */
    private static void watch() {
        range("watch", 0, 9, DeadTimeLoop::watch);
        for (int signal : new int[] {0, 3, 8, 9}) {
            refused("watch(" + signal + "), the fifth", Bench::full, x -> x.watch(signal), CAPACITY);
        }
        for (int signal = 4; signal < 8; signal++) {
            due("watch(" + signal + "), one of the four", full().watch(signal), 4);
        }
        due("the fourth", busy().watch(0), 4);
    }

    /** Promise 21: "NOT_FOUND if it is not watched". */
    private static void unwatch() {
        range("unwatch", 0, 9, DeadTimeLoop::unwatch);
        refused("unwatch(0) where none is watched", DeadTimeLoop::new, x -> x.unwatch(0), NOT_FOUND);
        refused("unwatch(0) where others are", Bench::busy, x -> x.unwatch(0), NOT_FOUND);
        refused("unwatch(3) where four others are", Bench::full, x -> x.unwatch(3), NOT_FOUND);
    }

    /** Promise 22: "INVALID_ARGUMENT if index is negative; NOT_FOUND if there are not so many". */
    private static void watchedAt() {
        index("watchedAt", DeadTimeLoop::watchedAt);
        refused("watchedAt(0) of none", DeadTimeLoop::new, x -> x.watchedAt(0), NOT_FOUND);
        refused("watchedAt(3) of three", Bench::busy, x -> x.watchedAt(3), NOT_FOUND);
        refused("watchedAt(4) of four", Bench::full, x -> x.watchedAt(4), NOT_FOUND);
        due("watchedAt(2) of three", busy().watchedAt(2), 8);
        due("watchedAt(3) of four", full().watchedAt(3), 7);
    }

    private static DeadTimeLoop justWatching() {
        DeadTimeLoop x = busy();
        x.watch(1);
        return x;
    }

    /** Promise 23: INVALID_ARGUMENT, then "NOT_POSSIBLE if ..", then "NOT_FOUND if ..". */
    private static void extreme() {
        range("extreme(.., 0)", 0, 9, (x, signal) -> x.extreme(signal, 0));
        range("extreme(8, ..)", 0, 2, (x, what) -> x.extreme(8, what));
        range("extreme(0, ..)", 0, 2, (x, what) -> x.extreme(0, what));
        refused("extreme(1, 3) before a tick", RefusalsTest::justWatching, x -> x.extreme(1, 3),
            INVALID);
        refused("extreme(0, 0), not watched, before the first tick", DeadTimeLoop::new,
            x -> x.extreme(0, 0), NOT_POSSIBLE);
        for (int w = 0; w < 3; w++) {
            int what = w;
            refused("extreme(2, " + w + "), not watched", Bench::busy, x -> x.extreme(2, what),
                NOT_POSSIBLE);
            refused("extreme(1, " + w + ") before a tick", RefusalsTest::justWatching,
                x -> x.extreme(1, what), NOT_FOUND);
        }
        due("extreme(9, 0) behind ticks", justWatching().extreme(9, 0), 0);
    }

    /** Promise 24: "INVALID_ARGUMENT if what is out of range". */
    private static void measure() {
        range("measure", 0, 3, DeadTimeLoop::measure);
    }

    /** Promise 25: "INVALID_ARGUMENT if tolerance is out of range". */
    private static void settledTicks() {
        range("settledTicks", 0, 100000, DeadTimeLoop::settledTicks);
    }

    /** Promise 26: "CAPACITY_EXCEEDED if there are 2". */
    private static void store() {
        refused("the third store()", Bench::full, DeadTimeLoop::store, CAPACITY);
        due("the second store()", busy().store(), 2);
    }

    private static DeadTimeLoop recalled() {
        DeadTimeLoop x = busy();
        x.recall();
        x.run(3);
        return x;
    }

    /** Promise 27: "NOT_POSSIBLE if there is none". */
    private static void recall() {
        refused("recall() of a new loop", DeadTimeLoop::new, DeadTimeLoop::recall, NOT_POSSIBLE);
        refused("recall() behind the last", RefusalsTest::recalled, DeadTimeLoop::recall,
            NOT_POSSIBLE);
        due("the last recall()", busy().recall(), 0);
    }

    /** Nothing moves in it: all correlations are 0. */
    private static DeadTimeLoop still() {
        DeadTimeLoop x = with("kp=0;ki=0;noise=0;");
        x.setParameter(7, 70);
        x.run(40);
        return x;
    }

    /** Promise 28: "INVALID_ARGUMENT if lag is out of range"; Promise 29: NOT_FOUND. */
    private static void estimation() {
        range("correlation", 0, 30, DeadTimeLoop::correlation);
        refused("estimatedLag() of a new loop", DeadTimeLoop::new, DeadTimeLoop::estimatedLag,
            NOT_FOUND);
        refused("estimatedLag() of a still loop", RefusalsTest::still, DeadTimeLoop::estimatedLag,
            NOT_FOUND);
    }

    /** The process answers a step in two parts, one behind the lag 0 and the rest behind the lag 1. */
    private static DeadTimeLoop twoLags(int dead, int setpoint) {
        DeadTimeLoop x = open("dead=" + dead + ";");
        x.setSetpoint(setpoint);
        x.run(4);
        return x;
    }

    /** Promise 30: "NOT_POSSIBLE if there is no estimated lag, or its correlation is less than ..". */
    private static void tuneDelay() {
        refused("tuneDelay() of a new loop", DeadTimeLoop::new, DeadTimeLoop::tuneDelay,
            NOT_POSSIBLE);
        refused("tuneDelay() of a still loop", RefusalsTest::still, DeadTimeLoop::tuneDelay,
            NOT_POSSIBLE);
        refused("tuneDelay() with 4 * 2 against 4 * 2", () -> twoLags(5, 4),
            DeadTimeLoop::tuneDelay, NOT_POSSIBLE);
        refused("tuneDelay() with 5 * 3 against 5 * 2", () -> twoLags(4, 5),
            DeadTimeLoop::tuneDelay, NOT_POSSIBLE);
        due("tuneDelay() with 3 * 1 against 3 * 2", twoLags(4, 3).tuneDelay(), 10);
    }

    /** "If several errors apply to a call, INVALID_ARGUMENT is returned rather than .." */
    private static void orderOfErrors() {
        due("type(127), the text being full", full().type(127), INVALID);
        due("watch(10), four being watched", full().watch(10), INVALID);
        due("run(501), the time being over", at(99999).run(501), INVALID);
        due("assignedAt(-1), the text having a fault", full().assignedAt(-1), INVALID);
        due("extreme(0, 3), not watched", full().extreme(0, 3), INVALID);
        due("nameAt(15, 99), no such name", full().nameAt(15, 99), INVALID);
        due("recorded(10, 63), no such tick", full().recorded(10, 63), INVALID);
        due("recorded(0, 64), no such tick", new DeadTimeLoop().recorded(0, 64), INVALID);
        due("unwatch(-1), not watched", full().unwatch(-1), INVALID);
        due("watchedAt(-1), none watched", new DeadTimeLoop().watchedAt(-1), INVALID);
        due("assignedAt(9) with a fault, not so many", full().assignedAt(9), NOT_POSSIBLE);
        due("extreme(0, 0) not watched, no tick", new DeadTimeLoop().extreme(0, 0), NOT_POSSIBLE);
    }

    /** Promises 31, 32 and 33: "INVALID_ARGUMENT if ..". */
    private static void foresight() {
        range("ahead(.., 8)", 1, 500, (x, ticks) -> x.ahead(ticks, 8));
        range("ahead(5, ..)", 0, 9, (x, signal) -> x.ahead(5, signal));
        invalid("ahead(0, 10)", x -> x.ahead(0, 10));
        range("bestGain", 1, 100, DeadTimeLoop::bestGain);
        range("idealDifference", 1, 200, DeadTimeLoop::idealDifference);
    }
}
