/**
 * The boundary cases of the document's Description 1 to 3, a test a sentence: both noughts, heights
 * and first digits at powers of two, the ends of the arguments, and what is told of answers by a.
 * to f. at the eighths where it begins and ends. The numbers written out are true values, computed
 * outside Java to 120 decimal digits.
 */
public final class NumberEdgesTest {
    private static final Class<IllegalStateException> NOT_NOW = IllegalStateException.class;
    private static final int SINH = 1;
    private static final int COSH = 2;
    private static final int TANH = 3;
    private static final int UPPER_OF_ONE = 0x3FF00000;
    private static final int LEAST_INT = Integer.MIN_VALUE;

    private static final Report report = new Report("NumberEdgesTest");

    public static void main(String[] args) {
        bothNoughts();
        digitsToldAsInts();
        heightsAtPowersOfTwo();
        firstDigits();
        turned();
        endsOfArguments();
        noOtherArguments();
        noughtsToFunctions();
        argumentsTurned();
        tanhNearest();
        tanhUpToOne();
        headsOfAnswers();
        signsOfAnswers();
        meeting();
        noWholeValues();
        toldWhole();
        orderOfTrueValues();
        whereFormulasChange();
        report.close();
    }

    private static void due(String call, Object got, Object want) {
        report.due(call, got, want);
    }

    /** An object that has an answer in cell 0. */
    private static Chaincurves with(int what, int eighths) {
        Chaincurves x = new Chaincurves();
        x.make(what, eighths, 0);
        return x;
    }

    /** An object that has an argument in cell 0. */
    private static Chaincurves with(int eighths) {
        Chaincurves x = new Chaincurves();
        x.put(0, eighths);
        return x;
    }

    private static Chaincurves withMinusNought() {
        Chaincurves x = new Chaincurves();
        x.putMinusNought(0);
        return x;
    }

    private static void digits(String of, Chaincurves x, int upper, int lower) {
        due("isWhole of " + of, x.isWhole(0), true);
        due("upper of " + of, x.upper(0), upper);
        due("lower of " + of, x.lower(0), lower);
    }

    private static void bothNoughts() {
        report.sentence("1 NOUGHT has the SIGN 0, EXPONENT and FRACTION 0");
        due("sign", with(0).sign(0), 0);
        due("isNought", with(0).isNought(0), true);
        digits("NOUGHT", with(0), 0, 0);
        report.sentence("1 MINUS NOUGHT has the SIGN 1, EXPONENT and FRACTION 0");
        due("sign", withMinusNought().sign(0), 1);
        due("isNought", withMinusNought().isNought(0), true);
        digits("MINUS NOUGHT", withMinusNought(), LEAST_INT, 0);
        report.sentence("1 of both NOUGHTS the VALUE is 0, so the same; but they have not all digits alike");
        Chaincurves x = withMinusNought();
        due("order of MINUS NOUGHT and NOUGHT", x.order(0, 1), 0);
        due("order of NOUGHT and MINUS NOUGHT", x.order(1, 0), 0);
        due("isSame", x.isSame(0, 1), false);
        report.sentence("1 the same VALUE have only both NOUGHTS: beside them the least and others differ");
        for (int eighths : new int[] {1, -1, 320, -320}) {
            x.put(2, eighths);
            int way = eighths < 0 ? -1 : 1;
            due("order of " + eighths + " and NOUGHT", x.order(2, 1), way);
            due("order of " + eighths + " and MINUS NOUGHT", x.order(2, 0), way);
            due("order of MINUS NOUGHT and " + eighths, x.order(0, 2), -way);
            x.copy(2, 3);
            x.turn(3);
            due("order of " + eighths + " and it TURNED", x.order(2, 3), way);
        }
    }

    private static void digitsToldAsInts() {
        report.sentence("1 digits are told as an int, the first of the 32 is its sign digit");
        digits("-40", with(-320), 0xC0440000, 0);
        digits("40", with(320), 0x40440000, 0);
        digits("TANH of 6, first of the last 32 digits 1", with(TANH, 6), 1071928099, -447548888);
        digits("TANH of 9, first of the last 32 digits 0", with(TANH, 9), 1072293323, 1537494377);
        digits("TANH of 152, all of the last 32 digits 1", with(TANH, 152), UPPER_OF_ONE - 1, -1);
    }

    private static void heightsAtPowersOfTwo() {
        report.sentence("1 HEIGHT is the greatest whole h for which 2^h is not above the SIZE");
        int[][] heights = {{1, -3}, {2, -2}, {3, -2}, {4, -1}, {7, -1}, {8, 0}, {15, 0}, {16, 1}, {31, 1}, {32, 2},
            {63, 2}, {64, 3}, {127, 3}, {128, 4}, {255, 4}, {256, 5}, {320, 5}};
        for (int[] height : heights) {
            due("height of " + height[0], with(height[0]).height(0), height[1]);
            due("height of -" + height[0], with(-height[0]).height(0), height[1]);
        }
        int[][] answers = {{TANH, 1, -4}, {TANH, 4, -2}, {TANH, 5, -1}, {TANH, 152, -1}, {TANH, 153, 0}, {SINH, 1, -3},
            {SINH, 7, -1}, {SINH, 8, 0}, {COSH, 1, 0}, {SINH, 133, 22}, {SINH, 134, 23}, {COSH, 320, 56}};
        for (int[] answer : answers) {
            String of = "height of " + answer[0] + " of " + answer[1];
            due(of, with(answer[0], answer[1]).height(0), answer[2]);
        }
        report.sentence("1 HEIGHT is EXPONENT - 1023, so -1023 of both NOUGHTS");
        due("height of NOUGHT", with(0).height(0), -1023);
        due("height of MINUS NOUGHT", withMinusNought().height(0), -1023);
    }

    private static void firstDigits() {
        report.sentence("1 the FIRST digit alone is 1");
        for (int eighths : new int[] {1, -1, 7, 8, 320, -320}) {
            due("first 1 of " + eighths, with(eighths).first(0, 1), 1);
        }
        due("first 1 of the greatest answer", with(SINH, -320).first(0, 1), 1);
        due("first 1 of the least answer", with(TANH, 1).first(0, 1), 1);
        report.sentence("1 FIRST n digits are rounded down");
        Chaincurves x = with(TANH, -152);
        for (int many = 1; many <= 24; many++) {
            due("first " + many + " of what is all ones", x.first(0, many), (1 << many) - 1);
        }
        x.put(0, -319);
        due("first 8 of 319, of 9 digits", x.first(0, 8), 159);
        due("first 9 of 319", x.first(0, 9), 319);
        due("first 10 of 319", x.first(0, 10), 638);
        report.sentence("1 FIRST n digits are 0 of both NOUGHTS");
        for (int many = 1; many <= 24; many++) {
            due("first " + many + " of NOUGHT", with(0).first(0, many), 0);
            due("first " + many + " of MINUS NOUGHT", withMinusNought().first(0, many), 0);
        }
    }

    private static void turned() {
        report.sentence("1 TURNED, a NUMBER has the other SIGN, and all else as it was");
        Chaincurves x = with(TANH, 152);
        due("turn", x.turn(0), 1);
        digits("it TURNED", x, UPPER_OF_ONE - 1 + LEAST_INT, -1);
        due("turn back", x.turn(0), 0);
        digits("it as it was", x, UPPER_OF_ONE - 1, -1);
        x = with(-320);
        due("turn -40", x.turn(0), 0);
        due("is 40", x.eighths(0), 320);
        report.sentence("1 TURNED, NOUGHT is MINUS NOUGHT, and that NOUGHT");
        x = with(0);
        due("turn NOUGHT", x.turn(0), 1);
        digits("it TURNED", x, LEAST_INT, 0);
        due("turn MINUS NOUGHT", x.turn(0), 0);
        digits("it TURNED back", x, 0, 0);
    }

    private static void endsOfArguments() {
        report.sentence("2 ARGUMENTS are of -320 to 320 eighths, both ends with them");
        due("isArgument of 320", with(320).isArgument(0), true);
        due("eighths of 320", with(320).eighths(0), 320);
        due("isArgument of -320", with(-320).isArgument(0), true);
        due("eighths of -320", with(-320).eighths(0), -320);
        due("isArgument of 1", with(1).isArgument(0), true);
        due("eighths of -1", with(-1).eighths(0), -1);
        report.sentence("2 there are 642 ARGUMENTS: no two are the SAME");
        int count = 0;
        Chaincurves x = withMinusNought();
        count += x.isArgument(0) ? 1 : 0;
        for (int k = -320; k <= 320; k++) {
            x = with(k);
            x.put(1, k - (k == -320 ? 0 : 1));
            x.putMinusNought(2);
            count += x.isArgument(0) && !x.isSame(0, 2) && x.isSame(0, 1) == (k == -320) ? 1 : 0;
        }
        due("how many", count, 642);
        report.sentence("2 both NOUGHTS are ARGUMENTS, of 0 eighths");
        due("isArgument of NOUGHT", with(0).isArgument(0), true);
        due("eighths of NOUGHT", with(0).eighths(0), 0);
        due("isArgument of MINUS NOUGHT", withMinusNought().isArgument(0), true);
        due("eighths of MINUS NOUGHT", withMinusNought().eighths(0), 0);
    }

    private static void noOtherArguments() {
        report.sentence("2 what lies between ARGUMENTS, below the least or above the greatest size is none");
        int[][] none = {{TANH, 1}, {SINH, 1}, {COSH, 1}, {TANH, 7}, {TANH, 152}, {SINH, 35}, {SINH, 36}, {COSH, 35},
            {COSH, 36}, {SINH, 320}, {COSH, -320}, {SINH, -1}, {TANH, -152}};
        for (int[] answer : none) {
            Chaincurves x = with(answer[0], answer[1]);
            String of = " of " + answer[0] + " of " + answer[1];
            due("isArgument" + of, x.isArgument(0), false);
            due("eighths" + of, x.eighths(0), -999);
            x.turn(0);
            due("isArgument TURNED" + of, x.isArgument(0), false);
        }
    }

    private static void noughtsToFunctions() {
        report.sentence("2a of NOUGHT SINH and TANH make the SAME again");
        Chaincurves x = with(0);
        x.sinh(0, 1);
        x.tanh(0, 2);
        due("isSame SINH", x.isSame(0, 1), true);
        due("isSame TANH", x.isSame(0, 2), true);
        due("signOf SINH", x.signOf(SINH, 0), 0);
        due("signOf TANH", x.signOf(TANH, 0), 0);
        report.sentence("2a of MINUS NOUGHT SINH and TANH make the SAME again");
        x = withMinusNought();
        x.sinh(0, 1);
        x.tanh(0, 2);
        due("isSame SINH", x.isSame(0, 1), true);
        due("isSame TANH", x.isSame(0, 2), true);
        report.sentence("2a COSH makes of both NOUGHTS the NUMBER with the VALUE 1");
        x.cosh(0, 3);
        x.cosh(7, 4);
        x.put(5, 8);
        due("COSH of MINUS NOUGHT", x.isSame(3, 5), true);
        due("COSH of NOUGHT", x.isSame(4, 5), true);
        due("its upper", x.upper(3), UPPER_OF_ONE);
        due("its lower", x.lower(3), 0);
    }

    private static void argumentsTurned() {
        int[] all = {1, 2, 3, 7, 8, 9, 138, 139, 149, 150, 152, 153, 175, 176, 319, 320};
        for (int what = SINH; what <= TANH; what++) {
            report.sentence("2b of an ARGUMENT TURNED function " + what + " makes "
                    + (what == COSH ? "the SAME" : "what it makes of it, TURNED"));
            for (int eighths : all) {
                Chaincurves x = with(what, eighths);
                x.make(what, -eighths, 1);
                due("sign of -" + eighths, x.sign(1), what == COSH ? 0 : 1);
                if (what != COSH) {
                    x.turn(1);
                }
                due("isSame of -" + eighths, x.isSame(0, 1), true);
            }
        }
    }

    private static void tanhNearest() {
        report.sentence("2c TANH of k eighths, k neither 1 nor 7, is the NUMBER NEAREST to its TRUE value");
        int[][] nearest = {{2, 1070553470, -1499849594}, {3, 1071050579, -561213520}, {6, 1071928099, -447548888},
            {8, 1072193274, -1256918124}, {9, 1072293323, 1537494377}, {132, UPPER_OF_ONE - 1, -84},
            {134, UPPER_OF_ONE - 1, -51}, {143, UPPER_OF_ONE - 1, -5}};
        for (int[] answer : nearest) {
            digits("TANH of " + answer[0], with(TANH, answer[0]), answer[1], answer[2]);
            digits("TANH of -" + answer[0], with(TANH, -answer[0]), answer[1] + LEAST_INT, answer[2]);
        }
    }

    private static void tanhUpToOne() {
        report.sentence("2c TANH is 1 from 153 eighths on");
        for (int eighths : new int[] {153, 154, 160, 175, 176, 177, 319, 320}) {
            digits("TANH of " + eighths, with(TANH, eighths), UPPER_OF_ONE, 0);
            digits("TANH of -" + eighths, with(TANH, -eighths), UPPER_OF_ONE + LEAST_INT, 0);
        }
        report.sentence("2c TANH is less than 1 up to 152 eighths");
        for (int eighths = -320; eighths <= 152; eighths++) {
            Chaincurves x = with(8);
            x.make(TANH, eighths, 1);
            due("order of TANH of " + eighths + " and 1", x.order(1, 0), -1);
        }
        report.sentence("2 TANH of 149 and of 152 eighths are the SAME");
        int[] last = {-4, -3, -3, -2, -2, -1, -1, -1, -1};
        for (int i = 0; i < last.length; i++) {
            digits("TANH of " + (144 + i), with(TANH, 144 + i), UPPER_OF_ONE - 1, last[i]);
        }
        Chaincurves x = with(TANH, 0);
        x.make(TANH, 149, 1);
        x.make(TANH, 152, 2);
        x.make(TANH, 148, 3);
        due("isSame of 149 and 152", x.isSame(1, 2), true);
        due("isSame of 148 and 149", x.isSame(3, 1), false);
    }

    private static void headsOfAnswers() {
        int[][] heads = {{SINH, 1, -3, 8410470}, {SINH, 2, -2, 8476262}, {SINH, 7, -1, 16626332}, {SINH, 8, 0, 9858302},
            {SINH, 149, 25, 15333621}, {SINH, 150, 26, 8687634}, {SINH, 175, 30, 12358103}, {SINH, 176, 30, 14003565},
            {SINH, 319, 56, 12091289}, {SINH, 320, 56, 13701225}, {COSH, 1, 0, 8454229}, {COSH, 2, 0, 8652120},
            {COSH, 3, 0, 8985376}, {COSH, 7, 0, 11810058}, {COSH, 8, 0, 12944298}, {COSH, 149, 25, 15333621},
            {COSH, 150, 26, 8687634}, {COSH, 175, 30, 12358103}, {COSH, 176, 30, 14003565}, {COSH, 320, 56, 13701225},
            {TANH, 1, -4, 16690377}, {TANH, 7, -1, 11809576}};
        for (int[] head : heads) {
            report.sentence("2d HEIGHT and FIRST 24 digits of " + head[0] + " of " + head[1] + " eighths");
            for (int eighths : new int[] {head[1], -head[1]}) {
                Chaincurves x = with(head[0], eighths);
                due("height of " + eighths, x.height(0), head[2]);
                due("first of " + eighths, x.first(0, 24), head[3]);
                due("heightOf " + eighths, x.heightOf(head[0], eighths), head[2]);
                due("firstOf " + eighths, x.firstOf(head[0], eighths, 24), head[3]);
            }
        }
    }

    private static void signsOfAnswers() {
        report.sentence("2d SINH and COSH of k eighths, k above 0, and TANH of 1 and 7 have the SIGN 0");
        Chaincurves x = new Chaincurves();
        for (int eighths : new int[] {1, 2, 7, 8, 175, 176, 319, 320}) {
            due("signOf SINH", x.signOf(SINH, eighths), 0);
            due("signOf COSH", x.signOf(COSH, eighths), 0);
        }
        due("signOf TANH of 1", x.signOf(TANH, 1), 0);
        due("signOf TANH of 7", x.signOf(TANH, 7), 0);
    }

    private static void meeting() {
        report.sentence("2e SINH and COSH of k eighths, k of 150 to 320, are the SAME");
        for (int k = 150; k <= 320; k++) {
            Chaincurves x = with(SINH, k);
            x.make(COSH, k, 1);
            due("isSame of " + k, x.isSame(0, 1), true);
            due("order of " + k, x.order(0, 1), 0);
        }
        report.sentence("2e below 150 eighths they are not the SAME: COSH is greater");
        for (int k = 1; k <= 149; k++) {
            Chaincurves x = with(SINH, k);
            x.make(COSH, k, 1);
            due("isSame of " + k, x.isSame(0, 1), false);
            due("order of " + k, x.order(0, 1), -1);
        }
        report.sentence("2e of -150 to -320 eighths SINH is COSH TURNED (by b.)");
        for (int k : new int[] {-150, -151, -320}) {
            Chaincurves x = with(SINH, k);
            x.make(COSH, k, 1);
            due("isSame of " + k, x.isSame(0, 1), false);
            x.turn(1);
            due("isSame TURNED of " + k, x.isSame(0, 1), true);
        }
    }

    private static void hasNoWholeValue(int what, int eighths) {
        Chaincurves x = with(what, eighths);
        int floor = x.floor(0);
        x.turn(0);
        // Of a whole value the two floors would be each other with the other sign.
        due("floor TURNED of " + what + " of " + eighths, x.floor(0), -floor - 1);
    }

    private static void noWholeValues() {
        report.sentence("2f no ANSWER told by d. with a HEIGHT of 23 or less has a whole number as its VALUE");
        for (int k = 1; k <= 138; k++) {
            for (int eighths : new int[] {k, -k}) {
                hasNoWholeValue(SINH, eighths);
                hasNoWholeValue(COSH, eighths);
            }
        }
        for (int eighths : new int[] {1, 7, -1, -7}) {
            hasNoWholeValue(TANH, eighths);
        }
    }

    private static void wholeness(int what, int eighths, boolean want) {
        Chaincurves x = with(what, eighths);
        due("isWhole of " + what + " of " + eighths, x.isWhole(0), want);
        x.turn(0);
        due("isWhole TURNED of " + what + " of " + eighths, x.isWhole(0), want);
        if (!want) {
            report.dueThrow("upper of " + what + " of " + eighths, NOT_NOW, () -> x.upper(0));
            report.dueThrow("lower of " + what + " of " + eighths, NOT_NOW, () -> x.lower(0));
        }
    }

    private static void toldWhole() {
        report.sentence("2 told WHOLE are all ARGUMENTS");
        for (int eighths : new int[] {0, 1, -1, 320, -320}) {
            due("isWhole of " + eighths, with(eighths).isWhole(0), true);
        }
        due("isWhole of MINUS NOUGHT", withMinusNought().isWhole(0), true);
        report.sentence("2 told WHOLE are ANSWERS by a.");
        for (int what = SINH; what <= TANH; what++) {
            wholeness(what, 0, true);
            Chaincurves x = withMinusNought();
            x.make(what, 0, 1);
            due("isWhole of " + what + " of NOUGHT", x.isWhole(1), true);
        }
        report.sentence("2 told WHOLE is TANH that is 1 or -1");
        wholeness(TANH, 153, true);
        wholeness(TANH, -153, true);
        wholeness(TANH, 320, true);
        wholeness(TANH, -320, true);
        report.sentence("2 told WHOLE is all that c. tells, also by b. and TURNED");
        for (int eighths : new int[] {2, 3, 6, 8, 9, 151, 152}) {
            wholeness(TANH, eighths, true);
            wholeness(TANH, -eighths, true);
        }
        report.sentence("2 not told WHOLE is what d. tells, also by b. and TURNED");
        wholeness(TANH, 1, false);
        wholeness(TANH, -1, false);
        wholeness(TANH, 7, false);
        wholeness(TANH, -7, false);
        for (int eighths : new int[] {1, 2, 7, 8, 149, 150, 319, 320}) {
            wholeness(SINH, eighths, false);
            wholeness(SINH, -eighths, false);
            wholeness(COSH, eighths, false);
            wholeness(COSH, -eighths, false);
        }
    }

    /** Each of these is less than the one behind it: the function (0 for an argument that is put), eighths. */
    private static final int[][] RISING = {{SINH, -320}, {SINH, -319}, {SINH, -150}, {SINH, -149}, {0, -320}, {SINH, -30},
        {SINH, -8}, {0, -9}, {0, -8}, {TANH, -152}, {SINH, -7}, {0, -7}, {TANH, -8}, {TANH, -7}, {SINH, -1}, {0, -1},
        {TANH, -1}, {0, 0}, {TANH, 1}, {0, 1}, {SINH, 1}, {TANH, 2}, {0, 2}, {SINH, 2}, {TANH, 6}, {TANH, 7}, {TANH, 8},
        {0, 7}, {SINH, 7}, {TANH, 152}, {0, 8}, {COSH, 1}, {COSH, 2}, {0, 9}, {SINH, 8}, {COSH, 8}, {0, 320}, {SINH, 36},
        {COSH, 36}, {SINH, 149}, {COSH, 149}, {SINH, 150}, {COSH, 151}, {SINH, 319}, {COSH, 320}};

    private static void bringTo(Chaincurves x, int cell, int[] recipe) {
        if (recipe[0] == 0) {
            x.put(cell, recipe[1]);
        } else {
            x.make(recipe[0], recipe[1], cell);
        }
    }

    private static void orderOfTrueValues() {
        report.sentence("2 the one with the less TRUE value has the less VALUE");
        for (int i = 0; i + 1 < RISING.length; i++) {
            Chaincurves x = new Chaincurves();
            bringTo(x, 0, RISING[i]);
            bringTo(x, 1, RISING[i + 1]);
            String of = " of " + i + " and " + (i + 1) + " in the row";
            due("order" + of, x.order(0, 1), -1);
            due("isSame" + of, x.isSame(0, 1), false);
            x.turn(0);
            x.turn(1);
            due("order TURNED" + of, x.order(0, 1), 1);
        }
    }

    private static void keepsLaws(Chaincurves x, int what, int eighths) {
        String of = " of " + what + " of " + eighths;
        due("isFormula" + of, x.isFormula(what, 0), true);
        due("isTurned" + of, x.isTurned(what, 0), true);
    }

    private static void formulaChanges(int what, int last, int next) {
        for (int eighths : new int[] {last, next, -last, -next}) {
            keepsLaws(with(eighths), what, eighths);
        }
        Chaincurves x = with(what, last);
        x.make(what, next, 1);
        // FormulasTest looks which formula made each digit; here, that nothing jumps where they change.
        due("order of both", x.order(0, 1), last < 153 || what != TANH ? -1 : 0);
    }

    private static void whereFormulasChange() {
        report.sentence("3 SINH: a below 1, a of 1 and more");
        formulaChanges(SINH, 7, 8);
        report.sentence("3 SINH: a below 22, otherwise");
        formulaChanges(SINH, 175, 176);
        report.sentence("3 COSH: a of at most 2 eighths, a more");
        formulaChanges(COSH, 2, 3);
        report.sentence("3 COSH: a below 22, otherwise");
        formulaChanges(COSH, 175, 176);
        report.sentence("3 TANH: a below 1, a of 1 and more");
        formulaChanges(TANH, 7, 8);
        report.sentence("3 TANH: a below 22, otherwise 1");
        formulaChanges(TANH, 175, 176);
        due("firstOf TANH of 176", with(0).firstOf(TANH, 176, 24), 1 << 23);
        report.sentence("3 0 is a NOUGHT, as is usual: the formulas of both NOUGHTS");
        for (int what = SINH; what <= TANH; what++) {
            keepsLaws(with(0), what, 0);
            keepsLaws(withMinusNought(), what, 0);
        }
    }
}
