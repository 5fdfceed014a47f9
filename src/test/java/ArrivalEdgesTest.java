/**
 * The boundary cases of what comes to the cells, a test a sentence: Description 4 and the promises
 * 1 to 14, but for what throws (see RefusalsTest).
 */
public final class ArrivalEdgesTest {
    private static final Report report = new Report("ArrivalEdgesTest");

    public static void main(String[] args) {
        newObject();
        eightCells();
        sourcesOfAnswers();
        answersThatAreArguments();
        sameNumberThere();
        sameNumberThereFromCells();
        put();
        putMinusNought();
        functionsOntoThemselves();
        functionsOfEnds();
        make();
        turn();
        bring();
        copy();
        swap();
        lesserAndGreater();
        lesserAndGreaterOfTheSame();
        empty();
        fiveHundredAndTwelveCalls();
        report.close();
    }

    private static void due(String call, Object got, Object want) {
        report.due(call, got, want);
    }

    /** What a cell has besides its number, its source with its sign: that is asked of a copy in cell 7. */
    private static void came(Chaincurves x, int cell, int origin, int source, boolean isMinus) {
        due("origin", x.origin(cell), origin);
        due("source", x.source(cell), source);
        x.copy(cell, 7);
        x.bring(7);
        due("sign of the source", x.sign(7), isMinus ? 1 : 0);
        due("the source itself", x.eighths(7), source);
    }

    private static void came(Chaincurves x, int cell, int origin, int source) {
        came(x, cell, origin, source, source < 0);
    }

    private static void newObject() {
        report.sentence("1 creates eight cells with NOUGHT");
        Chaincurves x = new Chaincurves();
        for (int cell = 0; cell < 8; cell++) {
            due("text", x.text(cell), "0");
            due("isNought", x.isNought(cell), true);
            due("sign", x.sign(cell), 0);
        }
        due("arguments", x.house(4), 8);
        due("alike", x.alike(7), 8);
        report.sentence("1 nothing is counted at first");
        for (int what = 0; what <= 3; what++) {
            due("house " + what, x.house(what), 0);
        }
        report.sentence("4 at first all have NOUGHT, as if it had been put");
        for (int cell = 0; cell < 8; cell++) {
            due("origin", x.origin(cell), 0);
            due("source", x.source(cell), 0);
            due("bring", x.bring(cell), 0);
            due("sign behind bring", x.sign(cell), 0);
        }
    }

    private static void eightCells() {
        report.sentence("4 there are eight cells, 0 to 7, each with its own");
        Chaincurves x = new Chaincurves();
        for (int cell = 0; cell < 8; cell++) {
            due("put", x.put(cell, 40 - cell), 1);
        }
        for (int cell = 0; cell < 8; cell++) {
            due("eighths", x.eighths(cell), 40 - cell);
            due("source", x.source(cell), 40 - cell);
            due("alike", x.alike(cell), 1);
        }
    }

    private static void sourcesOfAnswers() {
        report.sentence("4 what a function makes has the ARGUMENT as its SOURCE, with its SIGN");
        for (int what = 1; what <= 3; what++) {
            for (int eighths : new int[] {-320, -1, 0, 1, 320}) {
                Chaincurves x = new Chaincurves();
                x.make(what, eighths, 0);
                came(x, 0, what, eighths);
            }
        }
        report.sentence("4 of MINUS NOUGHT, too");
        Chaincurves x = new Chaincurves();
        x.putMinusNought(0);
        x.sinh(0, 1);
        came(x, 1, 1, 0, true);
        x.cosh(0, 1);
        came(x, 1, 2, 0, true);
        x.tanh(0, 1);
        came(x, 1, 3, 0, true);
    }

    private static void answersThatAreArguments() {
        report.sentence("4 an ANSWER that is an ARGUMENT can be taken as each other ARGUMENT, that NUMBER is the SOURCE");
        Chaincurves x = new Chaincurves();
        x.make(3, 153, 0);
        x.make(3, -320, 1);
        x.make(2, 0, 2);
        x.turn(2);
        int[][] taken = {{0, 8}, {1, -8}, {2, -8}};
        for (int[] cell : taken) {
            due("sinh", x.sinh(cell[0], 3), 1);
            came(x, 3, 1, cell[1]);
            due("cosh", x.cosh(cell[0], 3), 1);
            came(x, 3, 2, cell[1]);
            due("tanh", x.tanh(cell[0], 3), 1);
            came(x, 3, 3, cell[1]);
            due("isTurned", x.isTurned(1, cell[0]), true);
        }
        report.sentence("4 such an ANSWER may be a NOUGHT with its SIGN");
        x.make(1, 0, 4);
        x.turn(4);
        x.tanh(4, 5);
        due("tanh of SINH of NOUGHT, TURNED", x.text(5), "-0");
        came(x, 5, 3, 0, true);
    }

    /** "What comes to a cell comes with its ORIGIN and its SOURCE, also where the SAME NUMBER was there (and 0 is told)." */
    private static void sameNumberThere() {
        String also = "4 with ORIGIN and SOURCE also where the SAME NUMBER was: ";
        Chaincurves x = new Chaincurves();
        report.sentence(also + "put");
        x.make(3, 153, 0);
        due("put", x.put(0, 8), 0);
        came(x, 0, 0, 8);
        report.sentence(also + "putMinusNought");
        x.tanh(6, 1);
        x.turn(1);
        came(x, 1, 3, 0, false);
        due("putMinusNought", x.putMinusNought(1), 0);
        came(x, 1, 0, 0, true);
        report.sentence(also + "sinh");
        x.make(2, 160, 2);
        x.put(3, 160);
        due("sinh", x.sinh(3, 2), 0);
        came(x, 2, 1, 160);
        report.sentence(also + "cosh");
        x.put(3, -160);
        due("cosh", x.cosh(3, 2), 0);
        came(x, 2, 2, -160);
        report.sentence(also + "tanh");
        x.put(2, 8);
        x.put(3, 320);
        due("tanh", x.tanh(3, 2), 0);
        came(x, 2, 3, 320);
        report.sentence(also + "make");
        x.make(3, 149, 2);
        due("make", x.make(3, 152, 2), 0);
        came(x, 2, 3, 152);
        report.sentence(also + "bring");
        x.make(1, 0, 2);
        came(x, 2, 1, 0);
        due("bring", x.bring(2), 0);
        came(x, 2, 0, 0);
    }

    private static void sameNumberThereFromCells() {
        String also = "4 with ORIGIN and SOURCE also where the SAME NUMBER was: ";
        Chaincurves x = new Chaincurves();
        x.make(3, 200, 0);
        x.make(3, 300, 1);
        report.sentence(also + "copy");
        x.put(2, 8);
        due("copy", x.copy(0, 2), 0);
        came(x, 2, 3, 200);
        report.sentence(also + "lesser");
        due("lesser", x.lesser(1, 0, 2), 0);
        came(x, 2, 3, 300);
        report.sentence(also + "greater");
        due("greater", x.greater(0, 1, 2), 0);
        came(x, 2, 3, 200);
        report.sentence(also + "swap");
        due("swap", x.swap(1, 2), 0);
        came(x, 1, 3, 200);
        came(x, 2, 3, 300);
        report.sentence(also + "empty");
        x = new Chaincurves();
        x.putMinusNought(0);
        x.tanh(0, 0);
        x.turn(0);
        due("empty", x.empty(), 0);
        came(x, 0, 0, 0, false);
    }

    private static void put() {
        report.sentence("2 put: 0 eighths is NOUGHT");
        Chaincurves x = new Chaincurves();
        x.putMinusNought(0);
        due("put", x.put(0, 0), 1);
        due("text", x.text(0), "0");
        report.sentence("2 put: both ends come to the first and the last cell");
        due("put -320", x.put(0, -320), 1);
        due("put 320", x.put(7, 320), 1);
        due("eighths", x.eighths(0), -320);
        due("eighths", x.eighths(7), 320);
        report.sentence("2 put: 1 if another NUMBER was there, also if it was TURNED, 0 if the SAME was");
        due("put again", x.put(0, -320), 0);
        due("put it TURNED", x.put(0, 320), 1);
        due("put one less", x.put(0, 319), 1);
        due("put NOUGHT where NOUGHT was", x.put(1, 0), 0);
    }

    private static void putMinusNought() {
        report.sentence("3 putMinusNought: 1 if another NUMBER was there, also NOUGHT, 0 if the SAME was");
        Chaincurves x = new Chaincurves();
        due("over NOUGHT", x.putMinusNought(7), 1);
        due("over MINUS NOUGHT", x.putMinusNought(7), 0);
        x.put(7, -1);
        due("over -1", x.putMinusNought(7), 1);
        due("text", x.text(7), "-0");
        report.sentence("3 putMinusNought: as an ARGUMENT that was put");
        x.make(2, 5, 0);
        x.putMinusNought(0);
        came(x, 0, 0, 0, true);
    }

    private static int apply(Chaincurves x, int what, int cell, int into) {
        return what == 1 ? x.sinh(cell, into) : what == 2 ? x.cosh(cell, into) : x.tanh(cell, into);
    }

    private static void functionsOntoThemselves() {
        String[] names = {"", "4 sinh", "5 cosh", "6 tanh"};
        for (int what = 1; what <= 3; what++) {
            report.sentence(names[what] + ": it comes to another cell or the same");
            Chaincurves x = new Chaincurves();
            x.put(0, -9);
            due("into another one", apply(x, what, 0, 6), 1);
            due("again", apply(x, what, 0, 6), 0);
            due("the ARGUMENT stays", x.eighths(0), -9);
            due("into the same", apply(x, what, 0, 0), 1);
            due("is it", x.isSame(0, 6), true);
            came(x, 0, what, -9);
        }
        report.sentence("4 sinh: of NOUGHT onto itself, 0 as the SAME was there");
        Chaincurves x = new Chaincurves();
        due("sinh", x.sinh(0, 0), 0);
        came(x, 0, 1, 0, false);
        report.sentence("5 cosh: of NOUGHT onto itself, 1 as another was there");
        due("cosh", x.cosh(1, 1), 1);
        came(x, 1, 2, 0, false);
        report.sentence("6 tanh: of MINUS NOUGHT over NOUGHT, 1 as another was there");
        x.putMinusNought(2);
        due("tanh onto itself", x.tanh(2, 2), 0);
        due("tanh over NOUGHT", x.tanh(2, 3), 1);
        came(x, 2, 3, 0, true);
    }

    private static void functionsOfEnds() {
        String[] names = {"", "4 sinh", "5 cosh", "6 tanh"};
        String[] most = {"", "1.10100010001000001101001p56", "1.10100010001000001101001p56",
            "1.00000000000000000000000p0"};
        for (int what = 1; what <= 3; what++) {
            report.sentence(names[what] + ": of the greatest and of the least ARGUMENT");
            Chaincurves x = new Chaincurves();
            x.put(0, 320);
            x.put(1, -320);
            due("of 320", apply(x, what, 0, 2), 1);
            due("text", x.text(2), most[what]);
            due("of -320", apply(x, what, 1, 3), 1);
            due("text", x.text(3), (what == 2 ? "" : "-") + most[what]);
            came(x, 2, what, 320);
            came(x, 3, what, -320);
        }
    }

    private static void make() {
        report.sentence("7 make: 0 eighths is NOUGHT, not MINUS NOUGHT");
        Chaincurves x = new Chaincurves();
        for (int what = 1; what <= 3; what++) {
            x.putMinusNought(0);
            due("make " + what, x.make(what, 0, 0), 1);
            due("text", x.text(0), what == 2 ? "1.00000000000000000000000p0" : "0");
            came(x, 0, what, 0, false);
        }
        report.sentence("7 make: is what the function's own call makes, at both ends of the functions");
        for (int what = 1; what <= 3; what++) {
            for (int eighths : new int[] {-320, -1, 1, 320}) {
                x.make(what, eighths, 0);
                x.put(1, eighths);
                apply(x, what, 1, 2);
                due("isSame", x.isSame(0, 2), true);
                due("again", x.make(what, eighths, 2), 0);
            }
        }
    }

    private static void turn() {
        report.sentence("8 turn: returns its SIGN behind that, of NOUGHT 1");
        Chaincurves x = new Chaincurves();
        due("turn", x.turn(7), 1);
        due("text", x.text(7), "-0");
        report.sentence("8 turn: of MINUS NOUGHT 0");
        due("turn", x.turn(7), 0);
        due("text", x.text(7), "0");
        report.sentence("8 turn: ORIGIN and SOURCE stay");
        x.put(0, -320);
        due("turn", x.turn(0), 0);
        due("eighths", x.eighths(0), 320);
        came(x, 0, 0, -320);
        x.make(1, -5, 1);
        due("turn", x.turn(1), 0);
        came(x, 1, 1, -5);
        x.putMinusNought(2);
        due("turn", x.turn(2), 0);
        came(x, 2, 0, 0, true);
        x.make(2, 320, 3);
        due("turn", x.turn(3), 1);
        came(x, 3, 2, 320);
    }

    private static void bring() {
        report.sentence("9 bring: the SOURCE of a cell comes to it, as an ARGUMENT that was put");
        Chaincurves x = new Chaincurves();
        x.make(2, -320, 0);
        due("bring", x.bring(0), 1);
        due("eighths", x.eighths(0), -320);
        came(x, 0, 0, -320);
        report.sentence("9 bring: MINUS NOUGHT with its SIGN");
        x.putMinusNought(1);
        x.cosh(1, 1);
        due("bring", x.bring(1), 1);
        due("text", x.text(1), "-0");
        came(x, 1, 0, 0, true);
        report.sentence("9 bring: 0 if the SAME was there");
        due("bring again", x.bring(1), 0);
        x.putMinusNought(2);
        x.sinh(2, 2);
        due("bring of SINH of MINUS NOUGHT", x.bring(2), 0);
        x.turn(2);
        due("bring of it TURNED", x.bring(2), 1);
        due("sign", x.sign(2), 1);
    }

    private static void copy() {
        report.sentence("10 copy: to the same cell nothing changes, and 0 is told");
        Chaincurves x = new Chaincurves();
        x.make(1, -320, 0);
        due("copy", x.copy(0, 0), 0);
        came(x, 0, 1, -320);
        report.sentence("10 copy: NOUGHT over MINUS NOUGHT is another, and the other way round");
        x.putMinusNought(1);
        due("copy NOUGHT", x.copy(2, 1), 1);
        x.putMinusNought(1);
        due("copy MINUS NOUGHT", x.copy(1, 2), 1);
        due("isSame", x.isSame(1, 2), true);
    }

    private static void swap() {
        report.sentence("11 swap: with the same cell nothing changes, and 0 is told");
        Chaincurves x = new Chaincurves();
        x.make(3, 7, 0);
        due("swap", x.swap(0, 0), 0);
        came(x, 0, 3, 7);
        report.sentence("11 swap: unlike NUMBERS are NOUGHT and MINUS NOUGHT, too");
        x.putMinusNought(1);
        due("swap", x.swap(1, 2), 1);
        due("sign", x.sign(1), 0);
        due("sign", x.sign(2), 1);
        came(x, 1, 0, 0, false);
        came(x, 2, 0, 0, true);
        report.sentence("11 swap: of the first and the last cell");
        x.put(7, 320);
        due("swap", x.swap(7, 0), 1);
        due("eighths", x.eighths(0), 320);
        due("origin", x.origin(0), 0);
        due("source", x.source(0), 320);
        due("origin", x.origin(7), 3);
        due("source", x.source(7), 7);
    }

    private static void lesserAndGreater() {
        report.sentence("12 lesser: of both ends the least");
        Chaincurves x = new Chaincurves();
        x.put(0, 320);
        x.put(6, -320);
        due("lesser", x.lesser(0, 6, 3), 1);
        due("eighths", x.eighths(3), -320);
        report.sentence("12 lesser: into one of both, also where it stays");
        due("into the greater one", x.lesser(6, 0, 0), 1);
        due("eighths", x.eighths(0), -320);
        due("into the lesser one", x.lesser(6, 1, 6), 0);
        due("eighths", x.eighths(6), -320);
        report.sentence("12 lesser: of one and the same cell");
        due("lesser", x.lesser(6, 6, 4), 1);
        due("eighths", x.eighths(4), -320);
        report.sentence("13 greater: of both ends the greatest");
        x.put(0, 320);
        due("greater", x.greater(6, 0, 3), 1);
        due("eighths", x.eighths(3), 320);
        report.sentence("13 greater: into one of both, also where it stays");
        due("into the lesser one", x.greater(0, 6, 6), 1);
        due("eighths", x.eighths(6), 320);
        due("into the greater one", x.greater(1, 6, 6), 0);
        due("eighths", x.eighths(6), 320);
        report.sentence("13 greater: of one and the same cell");
        due("greater", x.greater(6, 6, 5), 1);
        due("eighths", x.eighths(5), 320);
    }

    private static void lesserAndGreaterOfTheSame() {
        Chaincurves x = new Chaincurves();
        x.putMinusNought(1);
        x.make(1, 150, 2);
        x.make(2, 150, 3);
        report.sentence("12 lesser: the first one's, if their VALUES are the same: both NOUGHTS");
        x.lesser(0, 1, 4);
        due("sign", x.sign(4), 0);
        x.lesser(1, 0, 4);
        due("sign", x.sign(4), 1);
        report.sentence("13 greater: the first one's, if their VALUES are the same: both NOUGHTS");
        x.greater(0, 1, 4);
        due("sign", x.sign(4), 0);
        x.greater(1, 0, 4);
        due("sign", x.sign(4), 1);
        report.sentence("12 lesser: the first one's, if their VALUES are the same: the SAME of two ORIGINS");
        x.lesser(2, 3, 4);
        came(x, 4, 1, 150);
        x.lesser(3, 2, 4);
        came(x, 4, 2, 150);
        report.sentence("13 greater: the first one's, if their VALUES are the same: the SAME of two ORIGINS");
        x.greater(2, 3, 4);
        came(x, 4, 1, 150);
        x.greater(3, 2, 4);
        came(x, 4, 2, 150);
    }

    private static void empty() {
        report.sentence("14 empty: of an object that is empty 0");
        Chaincurves x = new Chaincurves();
        due("empty", x.empty(), 0);
        report.sentence("14 empty: of an object that is full 8");
        for (int cell = 0; cell < 8; cell++) {
            x.make(2, 320 - cell, cell);
        }
        due("empty", x.empty(), 8);
        due("empty again", x.empty(), 0);
        report.sentence("14 empty: all cells have NOUGHT then, put, as at first");
        for (int cell = 0; cell < 7; cell++) {
            due("text", x.text(cell), "0");
            came(x, cell, 0, 0, false);
        }
        report.sentence("14 empty: MINUS NOUGHT is another NUMBER, NOUGHT that a function made is not");
        x = new Chaincurves();
        x.putMinusNought(0);
        x.make(3, 0, 1);
        x.turn(7);
        due("empty", x.empty(), 2);
        due("sign", x.sign(7), 0);
        due("origin", x.origin(1), 0);
        report.sentence("14 empty: what house() tells of 0 to 3 stays");
        x.swap(0, 1);
        x.knock();
        x.empty();
        due("house 0", x.house(0), 2);
        due("house 1", x.house(1), 1);
        due("house 2", x.house(2), 1);
        due("house 3", x.house(3), 1);
    }

    private static void fiveHundredAndTwelveCalls() {
        report.sentence("an object is used for at most 512 calls: the last of them");
        Chaincurves x = new Chaincurves();
        for (int call = 1; call <= 511; call++) {
            due("put", x.put(call % 8, call % 8 + 1), call <= 8 ? 1 : 0);
        }
        due("house 0", x.house(0), 511);
        x = new Chaincurves();
        for (int call = 1; call <= 512; call++) {
            due("knock", x.knock(), call);
        }
        x = new Chaincurves();
        for (int call = 1; call <= 511; call++) {
            x.turn(call % 8);
        }
        due("house 1", x.house(1), 511);
        x = new Chaincurves();
        for (int call = 1; call <= 511; call++) {
            x.swap(call % 8, 0);
        }
        due("house 2", x.house(2), 511);
    }
}
