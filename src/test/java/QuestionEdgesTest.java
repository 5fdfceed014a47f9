import java.math.BigInteger;

/**
 * The boundary cases of what is asked, a test a sentence: what the promises 15 to 47 answer at an
 * end of a range, but for what throws (see RefusalsTest). Numbers written out are true values,
 * computed outside Java to 120 decimal digits.
 */
public final class QuestionEdgesTest {
    private static final int SINH = 1;
    private static final int COSH = 2;
    private static final int TANH = 3;

    private static final Report report = new Report("QuestionEdgesTest");
    private static final Chaincurves asked = new Chaincurves();

    public static void main(String[] args) {
        signsAndNoughts();
        argumentsAndEighths();
        originsAndSources();
        wholeDigits();
        heights();
        firstAndDigit();
        floors();
        texts();
        sameAndOrder();
        ends();
        alike();
        signAndHeightOf();
        firstOf();
        laws();
        rising();
        oneAndMeeting();
        boundedAndNear();
        houseCountsCalls();
        houseCountsCells();
        knocks();
        sound();
        digests();
        report.close();
    }

    private static void due(String call, Object got, Object want) {
        report.due(call, got, want);
    }

    /** NOUGHT, MINUS NOUGHT, both ends, the least sizes, TANH of 152 and 153, SINH of 320. */
    private static Chaincurves edges() {
        Chaincurves x = new Chaincurves();
        x.putMinusNought(1);
        x.put(2, 320);
        x.put(3, -320);
        x.put(4, -1);
        x.make(TANH, 1, 5);
        x.make(TANH, 152, 6);
        x.make(SINH, -320, 7);
        return x;
    }

    private static void signsAndNoughts() {
        Chaincurves x = edges();
        report.sentence("15 sign: of NOUGHT 0, of MINUS NOUGHT 1");
        due("sign of NOUGHT", x.sign(0), 0);
        due("sign of MINUS NOUGHT", x.sign(1), 1);
        report.sentence("15 sign: of both ends and of the greatest answer below 0");
        due("sign of 320", x.sign(2), 0);
        due("sign of -320", x.sign(3), 1);
        due("sign of SINH of -320", x.sign(7), 1);
        report.sentence("16 isNought: whether its VALUE is 0, so of both NOUGHTS");
        due("isNought of NOUGHT", x.isNought(0), true);
        due("isNought of MINUS NOUGHT", x.isNought(1), true);
        report.sentence("16 isNought: of the least sizes not");
        due("isNought of -1", x.isNought(4), false);
        due("isNought of TANH of 1", x.isNought(5), false);
        due("isNought of SINH of -320", x.isNought(7), false);
    }

    private static void argumentsAndEighths() {
        Chaincurves x = edges();
        report.sentence("17 isArgument: both NOUGHTS and both ends are, TANH up to 152 is none, from 153 on it is");
        boolean[] arguments = {true, true, true, true, true, false, false, false};
        for (int cell = 0; cell < 8; cell++) {
            due("isArgument of " + cell, x.isArgument(cell), arguments[cell]);
        }
        x.make(TANH, 153, 0);
        due("isArgument of TANH of 153", x.isArgument(0), true);
        x = edges();
        report.sentence("18 eighths: 0 for MINUS NOUGHT, too");
        due("eighths of MINUS NOUGHT", x.eighths(1), 0);
        due("eighths of NOUGHT", x.eighths(0), 0);
        report.sentence("18 eighths: at both ends");
        due("eighths of 320", x.eighths(2), 320);
        due("eighths of -320", x.eighths(3), -320);
        due("eighths of -1", x.eighths(4), -1);
        report.sentence("18 eighths: -999 if it is no ARGUMENT");
        due("eighths of TANH of 1", x.eighths(5), -999);
        due("eighths of TANH of 152", x.eighths(6), -999);
        due("eighths of SINH of -320", x.eighths(7), -999);
        report.sentence("18 eighths: of an ANSWER that is an ARGUMENT");
        x.make(TANH, -153, 0);
        x.make(COSH, 0, 1);
        due("eighths of TANH of -153", x.eighths(0), -8);
        due("eighths of COSH of 0", x.eighths(1), 8);
    }

    private static void originsAndSources() {
        report.sentence("19 origin: 0 put, 1 SINH, 2 COSH, 3 TANH, also where all made the same NUMBER");
        Chaincurves x = new Chaincurves();
        x.make(SINH, 0, 1);
        x.make(COSH, 0, 2);
        x.make(TANH, 0, 3);
        for (int cell = 0; cell <= 3; cell++) {
            due("origin", x.origin(cell), cell);
        }
        report.sentence("20 source: 0 for MINUS NOUGHT, too");
        x.putMinusNought(0);
        x.cosh(0, 1);
        due("source of it", x.source(0), 0);
        due("source of what was made of it", x.source(1), 0);
        report.sentence("20 source: at both ends, also of what is TURNED");
        for (int eighths : new int[] {-320, 320}) {
            x.put(0, eighths);
            x.make(TANH, eighths, 1);
            x.turn(0);
            x.turn(1);
            due("source of what was put", x.source(0), eighths);
            due("source of what was made", x.source(1), eighths);
        }
    }

    private static void wholeDigits() {
        Chaincurves x = edges();
        report.sentence("21 isWhole: at the edges");
        boolean[] whole = {true, true, true, true, true, false, true, false};
        for (int cell = 0; cell < 8; cell++) {
            due("isWhole of " + cell, x.isWhole(cell), whole[cell]);
        }
        report.sentence("22 upper: of both NOUGHTS only the SIGN");
        due("upper of NOUGHT", x.upper(0), 0);
        due("upper of MINUS NOUGHT", x.upper(1), Integer.MIN_VALUE);
        report.sentence("22 upper: of both ends");
        due("upper of 320", x.upper(2), 0x40440000);
        due("upper of -320", x.upper(3), 0xC0440000);
        report.sentence("23 lower: of both NOUGHTS 0, of both ends 0");
        for (int cell = 0; cell <= 4; cell++) {
            due("lower of " + cell, x.lower(cell), 0);
        }
        report.sentence("23 lower: all 32 digits 1, and the first of them 0 or 1");
        due("lower of TANH of 152", x.lower(6), -1);
        x.make(TANH, 9, 0);
        due("lower of TANH of 9", x.lower(0), 1537494377);
        x.make(TANH, 8, 0);
        due("lower of TANH of 8", x.lower(0), -1256918124);
    }

    private static void heights() {
        report.sentence("24 height: -1023 for both NOUGHTS");
        Chaincurves x = edges();
        due("height of NOUGHT", x.height(0), -1023);
        due("height of MINUS NOUGHT", x.height(1), -1023);
        report.sentence("24 height: the greatest and the least of the others");
        due("height of 320", x.height(2), 5);
        due("height of -320", x.height(3), 5);
        due("height of -1", x.height(4), -3);
        due("height of TANH of 1", x.height(5), -4);
        due("height of TANH of 152", x.height(6), -1);
        due("height of SINH of -320", x.height(7), 56);
    }

    private static void firstAndDigit() {
        Chaincurves x = edges();
        report.sentence("25 first: 1 digit, 1 but of both NOUGHTS");
        for (int cell = 0; cell < 8; cell++) {
            due("first 1 of " + cell, x.first(cell, 1), cell <= 1 ? 0 : 1);
        }
        report.sentence("25 first: 24 digits");
        int[] all = {0, 0, 10 << 20, 10 << 20, 1 << 23, 16690377, 0xFFFFFF, 13701225};
        for (int cell = 0; cell < 8; cell++) {
            due("first 24 of " + cell, x.first(cell, 24), all[cell]);
        }
        report.sentence("26 digit: place 0 is 1 but of both NOUGHTS");
        for (int cell = 0; cell < 8; cell++) {
            due("digit 0 of " + cell, x.digit(cell, 0), cell <= 1 ? 0 : 1);
        }
        report.sentence("26 digit: place 23 is the last of the FIRST 24");
        for (int cell = 0; cell < 8; cell++) {
            due("digit 23 of " + cell, x.digit(cell, 23), all[cell] & 1);
            due("digit 22 of " + cell, x.digit(cell, 22), all[cell] >> 1 & 1);
        }
    }

    private static void floors() {
        Chaincurves x = edges();
        report.sentence("27 floor: of both NOUGHTS 0");
        due("floor of NOUGHT", x.floor(0), 0);
        due("floor of MINUS NOUGHT", x.floor(1), 0);
        report.sentence("27 floor: of both ends");
        due("floor of 320", x.floor(2), 40);
        due("floor of -320", x.floor(3), -40);
        due("floor of 319", put(319).floor(0), 39);
        due("floor of -319", put(-319).floor(0), -40);
        report.sentence("27 floor: above 0 and below 1 it is 0");
        due("floor of 1", put(1).floor(0), 0);
        due("floor of 7", put(7).floor(0), 0);
        due("floor of TANH of 1", x.floor(5), 0);
        due("floor of TANH of 152", x.floor(6), 0);
        report.sentence("27 floor: below 0 and not below -1 it is -1");
        due("floor of -1", x.floor(4), -1);
        due("floor of -7", put(-7).floor(0), -1);
        due("floor of -8", put(-8).floor(0), -1);
        x.turn(5);
        x.turn(6);
        due("floor of TANH of 1, TURNED", x.floor(5), -1);
        due("floor of TANH of 152, TURNED", x.floor(6), -1);
        due("floor of -9", put(-9).floor(0), -2);
        report.sentence("27 floor: with a HEIGHT of 23, and of 22");
        int[][] high = {{138, 15507786}, {134, 9405948}, {133, 8300720}};
        for (int[] floor : high) {
            x.make(SINH, floor[0], 0);
            due("floor of SINH of " + floor[0], x.floor(0), floor[1]);
            x.turn(0);
            due("floor of it TURNED", x.floor(0), -floor[1] - 1);
        }
    }

    private static Chaincurves put(int eighths) {
        Chaincurves x = new Chaincurves();
        x.put(0, eighths);
        return x;
    }

    private static void texts() {
        Chaincurves x = edges();
        report.sentence("28 text: for a NOUGHT \"0\", with \"-\" if its SIGN is 1");
        due("text of NOUGHT", x.text(0), "0");
        due("text of MINUS NOUGHT", x.text(1), "-0");
        report.sentence("28 text: HEIGHT as a number, below 0 and of two digits");
        due("text of 320", x.text(2), "1.01000000000000000000000p5");
        due("text of -320", x.text(3), "-1.01000000000000000000000p5");
        due("text of -1", x.text(4), "-1.00000000000000000000000p-3");
        due("text of TANH of 1", x.text(5), "1.11111101010110011001001p-4");
        due("text of TANH of 152", x.text(6), "1.11111111111111111111111p-1");
        due("text of SINH of -320", x.text(7), "-1.10100010001000001101001p56");
        due("text of 1", put(8).text(0), "1.00000000000000000000000p0");
    }

    private static void sameAndOrder() {
        Chaincurves x = edges();
        report.sentence("29 isSame: both NOUGHTS are not");
        due("isSame", x.isSame(0, 1), false);
        due("isSame back", x.isSame(1, 0), false);
        report.sentence("29 isSame: a cell with itself is");
        for (int cell = 0; cell < 8; cell++) {
            due("isSame of " + cell, x.isSame(cell, cell), true);
        }
        report.sentence("29 isSame: TURNED is another");
        due("isSame of 320 and -320", x.isSame(2, 3), false);
        report.sentence("30 order: 0 if both VALUES are the same, so of both NOUGHTS and of a cell with itself");
        due("order of the NOUGHTS", x.order(0, 1), 0);
        due("order of the NOUGHTS back", x.order(1, 0), 0);
        for (int cell = 0; cell < 8; cell++) {
            due("order of " + cell, x.order(cell, cell), 0);
        }
        report.sentence("30 order: below 0 the greater SIZE is less");
        due("order of SINH of -320 and -320", x.order(7, 3), -1);
        due("order of -320 and -1", x.order(3, 4), -1);
        due("order of -1 and MINUS NOUGHT", x.order(4, 1), -1);
        due("order of MINUS NOUGHT and TANH of 1", x.order(1, 5), -1);
        due("order of TANH of 152 and 320", x.order(6, 2), -1);
        due("order of 320 and SINH of -320", x.order(2, 7), 1);
        report.sentence("31 isBelow: the same VALUE is meant only with orSame");
        due("isBelow of the NOUGHTS", x.isBelow(0, 1, false), false);
        due("isBelow of the NOUGHTS back", x.isBelow(1, 0, false), false);
        due("isBelow or same of the NOUGHTS", x.isBelow(0, 1, true), true);
        due("isBelow or same of the NOUGHTS back", x.isBelow(1, 0, true), true);
        due("isBelow of a cell and itself", x.isBelow(7, 7, false), false);
        due("isBelow or same of a cell and itself", x.isBelow(7, 7, true), true);
        due("isBelow of both ends", x.isBelow(3, 2, false), true);
        due("isBelow or same of both ends back", x.isBelow(2, 3, true), false);
    }

    private static void ends() {
        report.sentence("32 end: of several the first one, so 0 if all are the same");
        Chaincurves x = new Chaincurves();
        due("greatest", x.end(true), 0);
        due("least", x.end(false), 0);
        report.sentence("32 end: both NOUGHTS have the same VALUE");
        x.putMinusNought(0);
        due("greatest", x.end(true), 0);
        due("least", x.end(false), 0);
        x.put(0, 0);
        x.putMinusNought(7);
        due("greatest", x.end(true), 0);
        due("least", x.end(false), 0);
        report.sentence("32 end: the last cell alone has it");
        x.put(7, 1);
        due("greatest", x.end(true), 7);
        due("least", x.end(false), 0);
        x.turn(7);
        due("greatest", x.end(true), 0);
        due("least", x.end(false), 7);
        report.sentence("32 end: the second cell alone has it");
        x.put(1, 2);
        due("greatest", x.end(true), 1);
        x.put(1, -2);
        due("least", x.end(false), 1);
        report.sentence("32 end: of several the first one, with others before it");
        x.make(SINH, 150, 3);
        x.make(COSH, 150, 5);
        due("greatest", x.end(true), 3);
        x.turn(3);
        x.turn(5);
        due("least", x.end(false), 3);
        report.sentence("32 end: all are below 0");
        for (int cell = 0; cell < 8; cell++) {
            x.put(cell, cell - 320);
        }
        due("greatest", x.end(true), 7);
        due("least", x.end(false), 0);
    }

    private static void alike() {
        report.sentence("33 alike: with itself, so 1 of one alone");
        Chaincurves x = edges();
        for (int cell = 0; cell < 8; cell++) {
            due("alike of " + cell, x.alike(cell), 1);
        }
        report.sentence("33 alike: 8 if all have the SAME");
        x.empty();
        due("alike", x.alike(0), 8);
        due("alike", x.alike(7), 8);
        report.sentence("33 alike: both NOUGHTS are not the SAME");
        x.turn(7);
        due("alike of NOUGHT", x.alike(0), 7);
        due("alike of MINUS NOUGHT", x.alike(7), 1);
    }

    private static void signAndHeightOf() {
        report.sentence("34 signOf: of 0 eighths, NOUGHT, 0");
        for (int what = SINH; what <= TANH; what++) {
            due("signOf " + what, asked.signOf(what, 0), 0);
        }
        report.sentence("34 signOf: at both ends, and beside 0");
        for (int what = SINH; what <= TANH; what++) {
            due("signOf " + what + " of 320", asked.signOf(what, 320), 0);
            due("signOf " + what + " of 1", asked.signOf(what, 1), 0);
            due("signOf " + what + " of -1", asked.signOf(what, -1), what == COSH ? 0 : 1);
            due("signOf " + what + " of -320", asked.signOf(what, -320), what == COSH ? 0 : 1);
        }
        report.sentence("35 heightOf: -1023 of both NOUGHTS");
        due("heightOf SINH of 0", asked.heightOf(SINH, 0), -1023);
        due("heightOf TANH of 0", asked.heightOf(TANH, 0), -1023);
        due("heightOf COSH of 0", asked.heightOf(COSH, 0), 0);
        report.sentence("35 heightOf: at both ends, and beside 0");
        int[] least = {0, -3, 0, -4};
        int[] most = {0, 56, 56, 0};
        for (int what = SINH; what <= TANH; what++) {
            due("heightOf " + what + " of 1", asked.heightOf(what, 1), least[what]);
            due("heightOf " + what + " of -1", asked.heightOf(what, -1), least[what]);
            due("heightOf " + what + " of 320", asked.heightOf(what, 320), most[what]);
            due("heightOf " + what + " of -320", asked.heightOf(what, -320), most[what]);
        }
    }

    private static void firstOf() {
        report.sentence("36 firstOf: 0 of both NOUGHTS");
        due("firstOf SINH of 0", asked.firstOf(SINH, 0, 24), 0);
        due("firstOf TANH of 0", asked.firstOf(TANH, 0, 1), 0);
        due("firstOf COSH of 0", asked.firstOf(COSH, 0, 24), 1 << 23);
        report.sentence("36 firstOf: of 1 digit and of 24, at both ends");
        int[] most = {0, 13701225, 13701225, 1 << 23};
        for (int what = SINH; what <= TANH; what++) {
            for (int eighths : new int[] {-320, 320}) {
                due("firstOf " + what + " of " + eighths, asked.firstOf(what, eighths, 1), 1);
                due("firstOf " + what + " of " + eighths, asked.firstOf(what, eighths, 24), most[what]);
            }
        }
        report.sentence("36 firstOf: rounded down, just below 1");
        due("firstOf TANH of 152", asked.firstOf(TANH, 152, 24), 0xFFFFFF);
        due("firstOf TANH of -152", asked.firstOf(TANH, -152, 24), 0xFFFFFF);
        due("firstOf TANH of 153", asked.firstOf(TANH, 153, 24), 1 << 23);
    }

    private static void laws() {
        report.sentence("37 isTurned: always so, at both ends and of both NOUGHTS");
        Chaincurves x = edges();
        for (int what = SINH; what <= TANH; what++) {
            for (int cell = 0; cell <= 4; cell++) {
                due("isTurned " + what + " of cell " + cell, x.isTurned(what, cell), true);
            }
        }
        report.sentence("38 isFormula: always so, at both ends and of both NOUGHTS");
        for (int what = SINH; what <= TANH; what++) {
            for (int cell = 0; cell <= 4; cell++) {
                due("isFormula " + what + " of cell " + cell, x.isFormula(what, cell), true);
            }
        }
        x.make(TANH, -153, 0);
        report.sentence("37 isTurned: of an ANSWER that is an ARGUMENT");
        due("isTurned of -1", x.isTurned(SINH, 0), true);
        report.sentence("38 isFormula: of an ANSWER that is an ARGUMENT");
        due("isFormula of -1", x.isFormula(SINH, 0), true);
    }

    private static void rising() {
        report.sentence("39 isRising: at the first and the last eighths");
        due("SINH of -320", asked.isRising(SINH, -320), true);
        due("COSH of -320", asked.isRising(COSH, -320), false);
        due("TANH of -320", asked.isRising(TANH, -320), false);
        due("SINH of 319", asked.isRising(SINH, 319), true);
        due("COSH of 319", asked.isRising(COSH, 319), true);
        due("TANH of 319", asked.isRising(TANH, 319), false);
        report.sentence("39 isRising: at 0, and up to it");
        for (int what = SINH; what <= TANH; what++) {
            due(what + " of 0", asked.isRising(what, 0), true);
            due(what + " of -1", asked.isRising(what, -1), what != COSH);
        }
        report.sentence("39 isRising: where TANH stays, and where it comes to 1");
        int[] rises = {140, 141, 142, 143, 144, 146, 148, 152};
        int next = 0;
        for (int k = 140; k <= 160; k++) {
            boolean rising = next < rises.length && rises[next] == k;
            next += rising ? 1 : 0;
            due("TANH of " + k, asked.isRising(TANH, k), rising);
            due("TANH of " + (-k - 1), asked.isRising(TANH, -k - 1), rising);
        }
    }

    private static void oneAndMeeting() {
        report.sentence("40 isOne: from 153 eighths on, not -1");
        due("152", asked.isOne(152), false);
        due("153", asked.isOne(153), true);
        due("320", asked.isOne(320), true);
        due("-152", asked.isOne(-152), false);
        due("-153", asked.isOne(-153), false);
        due("-320", asked.isOne(-320), false);
        due("0", asked.isOne(0), false);
        due("8", asked.isOne(8), false);
        report.sentence("41 isMeeting: from 150 eighths on, not below 0");
        due("149", asked.isMeeting(149), false);
        due("150", asked.isMeeting(150), true);
        due("320", asked.isMeeting(320), true);
        due("-149", asked.isMeeting(-149), false);
        due("-150", asked.isMeeting(-150), false);
        due("-320", asked.isMeeting(-320), false);
        due("0", asked.isMeeting(0), false);
        due("1", asked.isMeeting(1), false);
    }

    private static void boundedAndNear() {
        report.sentence("42 isBounded: always so, where two sizes are the same, too");
        for (int eighths : new int[] {-320, -153, -152, -150, -149, -1, 0, 1, 149, 150, 152, 153, 320}) {
            due("isBounded of " + eighths, asked.isBounded(eighths), true);
        }
        int[] least = {-320, 0, -160, -160, -160, -8};
        int[] most = {320, 320, 160, 160, 160, 8};
        for (int which = 0; which <= 5; which++) {
            report.sentence("43 isNear " + which + ": always so, at both its ends, at 0 and beside it");
            for (int eighths : new int[] {least[which], least[which] + 1, 0, 1, most[which] - 1, most[which]}) {
                due("isNear of " + eighths, asked.isNear(which, eighths), true);
            }
            if (least[which] < 0) {
                due("isNear of -1", asked.isNear(which, -1), true);
            }
        }
    }

    private static void counted(Chaincurves x, String call, int what, int want) {
        report.sentence("44 house: " + call + " that threw nothing is counted, also if all was as before");
        for (int other = 0; other <= 3; other++) {
            due("house " + other, x.house(other), other == what ? want : 0);
        }
    }

    private static void houseCountsCalls() {
        Chaincurves x = new Chaincurves();
        x.put(0, 0);
        counted(x, "put", 0, 1);
        x.putMinusNought(1);
        x.putMinusNought(1);
        counted(x, "putMinusNought", 0, 3);
        x.sinh(0, 0);
        counted(x, "sinh", 0, 4);
        x.cosh(0, 2);
        x.cosh(0, 2);
        counted(x, "cosh", 0, 6);
        x.tanh(0, 0);
        counted(x, "tanh", 0, 7);
        x.make(TANH, 0, 0);
        counted(x, "make", 0, 8);
        x.bring(0);
        counted(x, "bring", 0, 9);
        x.copy(0, 0);
        counted(x, "copy", 0, 10);
        x.lesser(0, 0, 0);
        counted(x, "lesser", 0, 11);
        x.greater(0, 0, 0);
        counted(x, "greater", 0, 12);
        x.empty();
        counted(x, "empty is not, but each other", 0, 12);
        x = new Chaincurves();
        x.turn(0);
        counted(x, "turn", 1, 1);
        x = new Chaincurves();
        x.swap(0, 0);
        counted(x, "swap", 2, 1);
        x = new Chaincurves();
        x.knock();
        counted(x, "knock", 3, 1);
    }

    private static void houseCountsCells() {
        report.sentence("44 house: 4, how many cells have an ARGUMENT, from 0 to 8");
        Chaincurves x = new Chaincurves();
        due("at first", x.house(4), 8);
        for (int cell = 0; cell < 8; cell++) {
            x.make(TANH, 152, cell);
            due("house 4", x.house(4), 7 - cell);
        }
        x.putMinusNought(7);
        due("MINUS NOUGHT is one", x.house(4), 1);
        x.make(TANH, 153, 0);
        due("TANH that is 1 is one", x.house(4), 2);
        report.sentence("44 house: 5, how many cells have a NUMBER that is told WHOLE, from 0 to 8");
        due("all", x.house(5), 8);
        for (int cell = 0; cell < 8; cell++) {
            x.make(TANH, cell < 4 ? 1 : -7, cell);
            due("house 5", x.house(5), 7 - cell);
        }
        x.make(TANH, 6, 3);
        due("TANH of 6 is", x.house(5), 1);
    }

    private static void knocks() {
        report.sentence("45 knock: returns how often one knocked, with this, so 1 at first");
        Chaincurves x = new Chaincurves();
        due("first", x.knock(), 1);
        due("second", x.knock(), 2);
        due("house 3", x.house(3), 2);
    }

    private static void sound() {
        report.sentence("46 isSound: always so, with all cells alike");
        Chaincurves x = new Chaincurves();
        due("at first", x.isSound(), true);
        for (int cell = 0; cell < 8; cell++) {
            x.putMinusNought(cell);
        }
        due("all MINUS NOUGHT", x.isSound(), true);
        report.sentence("46 isSound: always so, at the edges, TURNED, too");
        x = edges();
        due("at the edges", x.isSound(), true);
        for (int cell = 0; cell < 8; cell++) {
            x.turn(cell);
        }
        due("TURNED", x.isSound(), true);
        report.sentence("46 isSound: always so, of what comes from both NOUGHTS");
        x = new Chaincurves();
        x.putMinusNought(0);
        x.sinh(0, 1);
        x.cosh(0, 2);
        x.tanh(0, 3);
        x.copy(3, 4);
        x.turn(4);
        x.cosh(7, 5);
        x.turn(5);
        due("of both NOUGHTS", x.isSound(), true);
    }

    private static void wraps(Chaincurves x) {
        BigInteger d = Cells.unwrappedDigest(x);
        due("more than 64 digits", d.bitLength() > 64, true);
        due("digest", x.digest(), d.longValue());
    }

    private static void digests() {
        report.sentence("47 digest: wraps around as a 64-bit integer, of a new object");
        Chaincurves x = new Chaincurves();
        wraps(x);
        report.sentence("47 digest: wraps around to above 0 and to below 0");
        int above = 0;
        int below = 0;
        for (int eighths = -10; eighths <= 10; eighths++) {
            x = new Chaincurves();
            x.put(0, eighths);
            wraps(x);
            above += x.digest() > 0 ? 1 : 0;
            below += x.digest() < 0 ? 1 : 0;
        }
        due("above", above > 0, true);
        due("below", below > 0, true);
        report.sentence("47 digest: upper() and lower() only of what is told WHOLE; each v with its sign");
        x = edges();
        wraps(x);
        for (int cell = 0; cell < 8; cell++) {
            x.make(SINH, cell - 8, cell);
        }
        wraps(x);
        for (int cell = 0; cell < 8; cell++) {
            x.make(TANH, -152 - cell, cell);
        }
        wraps(x);
    }
}
