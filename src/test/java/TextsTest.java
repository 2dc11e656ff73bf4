/** The sentences of "Texts", and promises 9 to 14. */
public final class TextsTest extends Bench {
    private static final String SIXTEEN = "kp=5;kp=6;kp=7;kp=8;kp=9;kp=1;kp=2;kp=3;"
        + "kp=4;kp=5;kp=6;kp=7;kp=8;kp=9;kp=1;kp=2;";

    private TextsTest() {
    }

    public static void main(String[] args) {
        textInTheBeginning();
        lengthOfTheText();
        codesOfCharacters();
        clearText();
        clearedCharacters();
        faultOfAnEmptyText();
        namesInAText();
        equalsSign();
        minus();
        digits();
        semicolon();
        valuesOutOfRange();
        unfinishedAssignments();
        firstOfSeveralFaults();
        fullTexts();
        faultComesAndGoes();
        applyInOrder();
        applyIsOneChange();
        applyOfNoText();
        applyWithAFault();
        assigned();
        assignedAt();
        manyDifferentOnes();
        Check.end();
    }

    private static DeadTimeLoop text(String written) {
        DeadTimeLoop x = new DeadTimeLoop();
        write(x, written);
        return x;
    }

    private static void right(String written) {
        due("fault() of " + written, text(written).fault(), NOT_FOUND);
        Check.holds("apply() of " + written, text(written).apply() > 0);
    }

    private static void wrong(String written, int position) {
        DeadTimeLoop x = text(written);
        due("fault() of " + written, x.fault(), position);
        due("apply() of " + written, x.apply(), NOT_POSSIBLE);
        due("assigned() of " + written, x.assigned(), NOT_POSSIBLE);
        due("assignedAt(0) of " + written, x.assignedAt(0), NOT_POSSIBLE);
        parametersAre("behind " + written, x, INITIAL);
        due("length of " + written, x.clearText(), written.length());
    }

    /** "There is a text .. initially empty" */
    private static void textInTheBeginning() {
        DeadTimeLoop x = new DeadTimeLoop();
        due("clearText()", x.clearText(), 0);
        due("the first character", x.type(107), 1);
        due("the second character", x.type(107), 2);
    }

    /** "a text of at most 80 characters": the 80th is taken, the 81st refused. */
    private static void lengthOfTheText() {
        DeadTimeLoop x = new DeadTimeLoop();
        for (int length = 1; length <= 80; length++) {
            due("character " + length, x.type(97), length);
        }
        due("character 81", x.type(97), CAPACITY);
        due("character 81 again", x.type(32), CAPACITY);
        due("a wrong character 81", x.type(31), INVALID);
        due("a wrong character 81", x.type(127), INVALID);
        due("80 characters stay", x.clearText(), 80);
        due("there is room again", x.type(97), 1);
    }

    /** "its code, 32 to 126" */
    private static void codesOfCharacters() {
        DeadTimeLoop x = new DeadTimeLoop();
        int length = 0;
        for (int code = -300; code <= 400; code++) {
            boolean taken = code >= 32 && code <= 126;
            if (taken && length == 60) {
                due("clearText()", x.clearText(), length);
                length = 0;
            }
            length = taken ? length + 1 : length;
            due("type(" + code + ")", x.type(code), taken ? length : INVALID);
        }
        due("a code beyond the chars", x.type(65536 + 'k'), INVALID);
        due("the length", x.clearText(), length);
    }

    /** "Returns the length it had." */
    private static void clearText() {
        DeadTimeLoop x = text("kp=x");
        due("clearText()", x.clearText(), 4);
        due("clearText() again", x.clearText(), 0);
        due("no fault is left", x.fault(), NOT_FOUND);
        write(x, "kp");
        due("nothing of the old text stands behind the new one", x.fault(), 0);
        write(x, "=8;");
        due("a right text behind a wrong one", x.apply(), 1);
        due("kp", x.parameter(0), 8);
    }

    /** "Empties the text": what stood behind the new text's end is not read. */
    private static void clearedCharacters() {
        String whole = "kp=5;ki=6;";
        for (int length = 1; length < whole.length(); length++) {
            DeadTimeLoop x = text(whole);
            due("clearText()", x.clearText(), 10);
            write(x, whole.substring(0, length));
            due("fault() of " + whole.substring(0, length), x.fault(),
                length < 5 ? 0 : length == 5 ? NOT_FOUND : 5);
            due("apply() of it", x.apply(), length == 5 ? 1 : NOT_POSSIBLE);
        }
    }

    /** "NOT_FOUND if it has none (also if it is empty)" */
    private static void faultOfAnEmptyText() {
        DeadTimeLoop x = new DeadTimeLoop();
        due("fault() of a new loop", x.fault(), NOT_FOUND);
        write(x, "k");
        due("fault() of k", x.fault(), 0);
        x.clearText();
        due("fault() of an emptied text", x.fault(), NOT_FOUND);
    }

    /** ".. whose name is not one of the 15 names" */
    private static void namesInAText() {
        for (int p = 0; p < 15; p++) {
            String name = NAMES[p];
            right(name + "=" + RANGES[p][0] + ";");
            String value = "=" + RANGES[p][0] + ";";
            wrong(name + "x" + value, 0);
            wrong("x" + name + value, 0);
            wrong(name.substring(0, name.length() - 1) + value, 0);
            wrong(name.toUpperCase() + value, 0);
            wrong(" " + name + value, 0);
            wrong(name + " " + value, 0);
        }
        wrong("p=1;", 0);
        wrong("in=1;", 0);
        right("gain=1;");
        right("mgain=1;");
        wrong("mmgain=1;", 0);
        wrong("5=1;", 0);
        wrong("-=1;", 0);
    }

    private static void equalsSign() {
        right("kp=5;");
        wrong("kp5;", 0);
        wrong("kp==5;", 0);
        wrong("kp:5;", 0);
        wrong("kp <5;", 0);
        wrong("=5;", 0);
        wrong("=", 0);
        wrong("kp=5;=5;", 5);
    }

    /** "an optional -" */
    private static void minus() {
        right("gain=5;");
        right("gain=-5;");
        due("its value", appliedTo(2, "gain=-5;"), -5);
        wrong("gain=--5;", 0);
        wrong("gain=+5;", 0);
        wrong("gain=5-;", 0);
        wrong("gain=5-5;", 0);
        wrong("gain=-;", 0);
        wrong("gain=- 5;", 0);
        right("kp=-0;");
        due("its value", appliedTo(0, "kp=-0;"), 0);
        wrong("kp=-1;", 0);
        right("umin=-1;");
        wrong("umin=1;", 0);
    }

    private static int appliedTo(int parameter, String written) {
        DeadTimeLoop x = text(written);
        x.apply();
        return x.parameter(parameter);
    }

    /** "1 to 7 digits" */
    private static void digits() {
        wrong("kp=;", 0);
        right("kp=7;");
        right("kp=0000007;");
        due("its value", appliedTo(0, "kp=0000007;"), 7);
        wrong("kp=00000007;", 0);
        right("umin=-0000007;");
        due("its value", appliedTo(9, "umin=-0000007;"), -7);
        wrong("umin=-00000007;", 0);
        wrong("umin=-;", 0);
        wrong("kp=9999999;", 0);
        wrong("umin=-9999999;", 0);
        wrong("kp=4294967297;", 0);
        right("rate=0200000;");
        right("kp=0123;");
        due("no octal number", appliedTo(0, "kp=0123;"), 123);
        right("kp=0;");
        right("kp=9;");
        wrong("kp=/;", 0);
        wrong("kp=:;", 0);
        wrong("kp=1/;", 0);
        wrong("kp=1:;", 0);
        wrong("kp=1.5;", 0);
        wrong("kp=1e3;", 0);
        wrong("kp= 1;", 0);
        due("all digits", appliedTo(11, "rate=123456;") + appliedTo(0, "kp=7890;"), 131346);
    }

    private static void semicolon() {
        right("kp=5;");
        wrong("kp=5", 0);
        wrong("kp=5:", 0);
        wrong("kp=5 ;", 0);
        wrong("kp=5,", 0);
        wrong("kp=5;;", 5);
        wrong(";", 0);
        wrong(";kp=5;", 0);
        wrong("kp=5; ki=6;", 5);
        wrong("kp=5;ki=6; ", 10);
        right("kp=5;ki=6;");
    }

    /** ".. or whose value is out of range" */
    private static void valuesOutOfRange() {
        for (int p = 0; p < 15; p++) {
            String name = NAMES[p] + "=";
            right(name + RANGES[p][0] + ";");
            right(name + RANGES[p][1] + ";");
            due("the least of " + name, appliedTo(p, name + RANGES[p][0] + ";"), RANGES[p][0]);
            due("the greatest of " + name, appliedTo(p, name + RANGES[p][1] + ";"), RANGES[p][1]);
            wrong(name + (RANGES[p][0] - 1) + ";", 0);
            wrong(name + (RANGES[p][1] + 1) + ";", 0);
            wrong("kp=1;ki=22;" + name + (RANGES[p][1] + 1) + ";", 11);
        }
    }

    /** "the first character of the first assignment that is not of this form": the last one, cut. */
    private static void unfinishedAssignments() {
        String whole = "kp=5;gain=-12;";
        for (int length = 1; length <= whole.length(); length++) {
            String cut = whole.substring(0, length);
            if (length == 5 || length == 14) {
                right(cut);
            } else {
                wrong(cut, length < 5 ? 0 : 5);
            }
        }
    }

    /** "the first assignment that .." */
    private static void firstOfSeveralFaults() {
        wrong("kp=1;kp=20001;ki=x;zz=1;", 5);
        wrong("kp=1;ki=x;kp=20001;", 5);
        wrong("zz=1;kp=1;", 0);
        wrong("ki=1;gain=5001;gain=5;", 5);
        wrong("ki=10;gain=5001;gain=5;", 6);
    }

    private static void fullTexts() {
        due("80 characters", SIXTEEN.length(), 80);
        right(SIXTEEN);
        due("its last assignment", appliedTo(0, SIXTEEN), 2);
        due("apply()", text(SIXTEEN).apply(), 16);
        due("assigned()", text(SIXTEEN).assigned(), 1);
        wrong(SIXTEEN.substring(0, 79) + ":", 75);
        wrong(SIXTEEN.substring(0, 79), 75);
        wrong(SIXTEEN.substring(0, 75) + "zz=2;", 75);
        DeadTimeLoop x = text(SIXTEEN);
        due("character 81", x.type('x'), CAPACITY);
        due("the text is as before", x.fault(), NOT_FOUND);
        x = text(SIXTEEN.substring(0, 79) + ":;");
        due("the refused character does not mend it", x.fault(), 75);
    }

    private static void faultComesAndGoes() {
        DeadTimeLoop x = text("kp=5");
        due("fault() of kp=5", x.fault(), 0);
        x.type(';');
        due("fault() of kp=5;", x.fault(), NOT_FOUND);
        x.type('k');
        due("fault() of kp=5;k", x.fault(), 5);
        due("fault() again", x.fault(), 5);
    }

    /** "Makes the assignments of the text, one after the other." */
    private static void applyInOrder() {
        DeadTimeLoop x = text("kp=500;mgain=-40;kp=700;umin=-0;");
        due("apply()", x.apply(), 4);
        due("the last one counts", x.parameter(0), 700);
        due("mgain", x.parameter(5), -40);
        due("umin", x.parameter(9), 0);
        due("ki stays", x.parameter(1), 100);
    }

    /** "All of them together are one change of parameters. The text stays." */
    private static void applyIsOneChange() {
        DeadTimeLoop x = text("kp=5;ki=6;kp=7;");
        due("apply()", x.apply(), 3);
        due("the text stays", x.fault(), NOT_FOUND);
        due("apply() again", x.apply(), 3);
        due("undo()", x.undo(), 1);
        due("kp", x.parameter(0), 7);
        due("undo()", x.undo(), 0);
        parametersAre("behind both", x, INITIAL);
        due("undo() of none", x.undo(), NOT_POSSIBLE);
        due("the text stays", x.clearText(), 15);
        x = text("kp=5;");
        for (int n = 0; n < 7; n++) {
            due("apply()", x.apply(), 1);
        }
        due("six of seven apply() can be undone", x.undo(), 5);
    }

    /** "NOT_POSSIBLE if the text has a fault or is empty" */
    private static void applyOfNoText() {
        DeadTimeLoop x = new DeadTimeLoop();
        due("apply() of no text", x.apply(), NOT_POSSIBLE);
        write(x, "kp=5;");
        due("apply() of a text", x.apply(), 1);
        x.clearText();
        due("apply() of an emptied text", x.apply(), NOT_POSSIBLE);
        due("kp stays", x.parameter(0), 5);
        due("the one change", x.undo(), 0);
    }

    private static void applyWithAFault() {
        DeadTimeLoop x = text("kp=5;ki=6;noise=1001;");
        due("apply()", x.apply(), NOT_POSSIBLE);
        parametersAre("none of them is made", x, INITIAL);
        due("no change", x.undo(), NOT_POSSIBLE);
        due("the text stays", x.fault(), 10);
    }

    /** "Returns how many different parameters the text assigns." */
    private static void assigned() {
        DeadTimeLoop x = new DeadTimeLoop();
        due("assigned() of no text", x.assigned(), 0);
        write(x, "ki=1;");
        due("assigned() of one", x.assigned(), 1);
        write(x, "ki=2;");
        due("assigned() of one, twice", x.assigned(), 1);
        write(x, "kp=1;noise=3;ki=4;");
        due("assigned() of three", x.assigned(), 3);
        write(x, "kp");
        due("assigned() with a fault", x.assigned(), NOT_POSSIBLE);
        parametersAre("nothing is set by it", x, INITIAL);
    }

    /** "in the order in which they occur first" */
    private static void assignedAt() {
        DeadTimeLoop x = new DeadTimeLoop();
        due("assignedAt(0) of no text", x.assignedAt(0), NOT_FOUND);
        write(x, "ki=1;kp=1;ki=2;noise=3;kp=4;");
        due("assignedAt(0)", x.assignedAt(0), 1);
        due("assignedAt(1)", x.assignedAt(1), 0);
        due("assignedAt(2)", x.assignedAt(2), 14);
        due("assignedAt(3)", x.assignedAt(3), NOT_FOUND);
        due("assignedAt(16)", x.assignedAt(16), NOT_FOUND);
        due("assignedAt of the greatest int", x.assignedAt(Integer.MAX_VALUE), NOT_FOUND);
        due("assignedAt(-1)", x.assignedAt(-1), INVALID);
        write(x, ";");
        due("assignedAt(0) with a fault", x.assignedAt(0), NOT_POSSIBLE);
        due("assignedAt(3) with a fault", x.assignedAt(3), NOT_POSSIBLE);
        due("assignedAt(-1) with a fault", x.assignedAt(-1), INVALID);
    }

    private static void manyDifferentOnes() {
        String many = "rate=1;umax=1;umin=0;mlag=1;dead=1;gain=1;lag=1;ki=1;kp=1;mgain=1;mdead=1;";
        int[] order = {11, 10, 9, 6, 4, 2, 3, 1, 0, 5, 7};
        DeadTimeLoop x = text(many);
        due("assigned()", x.assigned(), 11);
        for (int index = 0; index < 11; index++) {
            due("assignedAt(" + index + ")", x.assignedAt(index), order[index]);
        }
        due("assignedAt(11)", x.assignedAt(11), NOT_FOUND);
        due("apply()", x.apply(), 11);
        parametersAre("behind it", x, new int[] {1, 1, 1, 1, 1, 1, 1, 1, 0, 0, 1, 1, 5000, 5, 0});
    }
}
