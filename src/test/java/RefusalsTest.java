/**
 * Each sentence "Throws .." of the document, the order of the exceptions where several apply, and
 * that neither a call that throws nor a question changes anything. Each call is asked of an object
 * of its own, of which all is told afterwards.
 */
public final class RefusalsTest {
    private static final Class<IndexOutOfBoundsException> NO_CELL = IndexOutOfBoundsException.class;
    private static final Class<IllegalArgumentException> WRONG = IllegalArgumentException.class;
    private static final Class<IllegalStateException> NOT_NOW = IllegalStateException.class;

    private static final int[] NO_CELLS = {-1, 8, 9, 15, -8, 256, Integer.MIN_VALUE, Integer.MAX_VALUE};
    private static final int[] NO_EIGHTHS = {-321, 321, 1000, Integer.MIN_VALUE, Integer.MAX_VALUE};
    private static final int[] NO_FUNCTIONS = {0, 4, -1, -3, Integer.MIN_VALUE, Integer.MAX_VALUE};
    private static final int[] NO_MANY = {0, 25, -1, 53, Integer.MIN_VALUE, Integer.MAX_VALUE};
    private static final int[] NO_PLACES = {-1, 24, 32, Integer.MIN_VALUE, Integer.MAX_VALUE};
    private static final int[] NO_SIXTHS = {-1, 6, Integer.MIN_VALUE, Integer.MAX_VALUE};

    private static final int[] ALL_CELLS = {0, 1, 2, 3, 4, 5, 6, 7};
    private static final int[] CELLS_WITH_NO_ARGUMENT = {2, 3, 4, 5, 7};
    private static final int[] CELLS_WITH_AN_ARGUMENT = {0, 1, 6};
    private static final int[] CELLS_NOT_WHOLE = {2, 3, 5, 7};
    private static final int[] CELLS_WHOLE = {0, 1, 4, 6};

    private static final String UNTOUCHED = Cells.tell(Cells.mixed());
    private static final Report report = new Report("RefusalsTest");

    /** A call with one value to try in it. */
    private interface Call {
        void of(Chaincurves x, int value);
    }

    public static void main(String[] args) {
        comingRefusesCells();
        comingRefusesTheRest();
        askingRefusesCells();
        askingRefusesTheRest();
        askingFunctionsRefuses();
        lawsRefuse();
        nearRefuses();
        firstNamedIsThrown();
        questionsChangeNothing();
        report.close();
    }

    /** A sentence "Throws .. if ..": each wrong value throws just that, and all is as it was. */
    private static void refuses(String sentence, Class<? extends RuntimeException> want, int[] values, Call call) {
        report.sentence(sentence);
        for (int value : values) {
            Chaincurves x = Cells.mixed();
            report.dueThrow("with " + value, want, () -> call.of(x, value));
            report.due("all behind it with " + value, Cells.tell(x), UNTOUCHED);
        }
    }

    /** What lies just inside the same bound is taken. */
    private static void takes(int[] values, Call call) {
        for (int value : values) {
            Chaincurves x = Cells.mixed();
            Object got = "taken";
            try {
                call.of(x, value);
            } catch (RuntimeException e) {
                got = e.getClass();
            }
            report.due("with " + value, got, "taken");
        }
    }

    private static void cell(String sentence, Call call) {
        refuses(sentence + " is not 0 to 7", NO_CELL, NO_CELLS, call);
        takes(ALL_CELLS, call);
    }

    private static void comingRefusesCells() {
        cell("2 put: cell", (x, c) -> x.put(c, 5));
        cell("3 putMinusNought: cell", (x, c) -> x.putMinusNought(c));
        refuses("4 sinh: cell is not 0 to 7", NO_CELL, NO_CELLS, (x, c) -> x.sinh(c, 0));
        takes(CELLS_WITH_AN_ARGUMENT, (x, c) -> x.sinh(c, 0));
        cell("4 sinh: into", (x, c) -> x.sinh(0, c));
        refuses("5 cosh: cell is not 0 to 7", NO_CELL, NO_CELLS, (x, c) -> x.cosh(c, 0));
        takes(CELLS_WITH_AN_ARGUMENT, (x, c) -> x.cosh(c, 0));
        cell("5 cosh: into", (x, c) -> x.cosh(0, c));
        refuses("6 tanh: cell is not 0 to 7", NO_CELL, NO_CELLS, (x, c) -> x.tanh(c, 0));
        takes(CELLS_WITH_AN_ARGUMENT, (x, c) -> x.tanh(c, 0));
        cell("6 tanh: into", (x, c) -> x.tanh(0, c));
        cell("7 make: into", (x, c) -> x.make(1, 5, c));
        cell("8 turn: cell", (x, c) -> x.turn(c));
        cell("9 bring: cell", (x, c) -> x.bring(c));
        cell("10 copy: cell", (x, c) -> x.copy(c, 0));
        cell("10 copy: into", (x, c) -> x.copy(0, c));
        cell("11 swap: cell", (x, c) -> x.swap(c, 0));
        cell("11 swap: other", (x, c) -> x.swap(0, c));
        cell("12 lesser: one", (x, c) -> x.lesser(c, 1, 2));
        cell("12 lesser: other", (x, c) -> x.lesser(0, c, 2));
        cell("12 lesser: into", (x, c) -> x.lesser(0, 1, c));
        cell("13 greater: one", (x, c) -> x.greater(c, 1, 2));
        cell("13 greater: other", (x, c) -> x.greater(0, c, 2));
        cell("13 greater: into", (x, c) -> x.greater(0, 1, c));
    }

    private static void comingRefusesTheRest() {
        refuses("2 put: eighths is not -320 to 320", WRONG, NO_EIGHTHS, (x, k) -> x.put(0, k));
        takes(new int[] {-320, 320}, (x, k) -> x.put(0, k));
        refuses("4 sinh: the NUMBER in cell is no ARGUMENT", NOT_NOW, CELLS_WITH_NO_ARGUMENT, (x, c) -> x.sinh(c, 0));
        takes(CELLS_WITH_AN_ARGUMENT, (x, c) -> x.sinh(c, 4));
        refuses("5 cosh: the NUMBER in cell is no ARGUMENT", NOT_NOW, CELLS_WITH_NO_ARGUMENT, (x, c) -> x.cosh(c, 0));
        takes(CELLS_WITH_AN_ARGUMENT, (x, c) -> x.cosh(c, 4));
        refuses("6 tanh: the NUMBER in cell is no ARGUMENT", NOT_NOW, CELLS_WITH_NO_ARGUMENT, (x, c) -> x.tanh(c, 0));
        takes(CELLS_WITH_AN_ARGUMENT, (x, c) -> x.tanh(c, 4));
        refuses("7 make: what is not 1 to 3", WRONG, NO_FUNCTIONS, (x, w) -> x.make(w, 5, 0));
        takes(new int[] {1, 3}, (x, w) -> x.make(w, 5, 0));
        refuses("7 make: eighths not -320 to 320", WRONG, NO_EIGHTHS, (x, k) -> x.make(1, k, 0));
        takes(new int[] {-320, 320}, (x, k) -> x.make(1, k, 0));
    }

    private static void askingRefusesCells() {
        cell("15 sign: cell", (x, c) -> x.sign(c));
        cell("16 isNought: cell", (x, c) -> x.isNought(c));
        cell("17 isArgument: cell", (x, c) -> x.isArgument(c));
        cell("18 eighths: cell", (x, c) -> x.eighths(c));
        cell("19 origin: cell", (x, c) -> x.origin(c));
        cell("20 source: cell", (x, c) -> x.source(c));
        cell("21 isWhole: cell", (x, c) -> x.isWhole(c));
        refuses("22 upper: cell is not 0 to 7", NO_CELL, NO_CELLS, (x, c) -> x.upper(c));
        takes(CELLS_WHOLE, (x, c) -> x.upper(c));
        refuses("23 lower: cell is not 0 to 7", NO_CELL, NO_CELLS, (x, c) -> x.lower(c));
        takes(CELLS_WHOLE, (x, c) -> x.lower(c));
        cell("24 height: cell", (x, c) -> x.height(c));
        cell("25 first: cell", (x, c) -> x.first(c, 24));
        cell("26 digit: cell", (x, c) -> x.digit(c, 0));
        refuses("27 floor: cell is not 0 to 7", NO_CELL, NO_CELLS, (x, c) -> x.floor(c));
        takes(new int[] {0, 1, 2, 3, 4, 5, 6}, (x, c) -> x.floor(c));
        cell("28 text: cell", (x, c) -> x.text(c));
        cell("29 isSame: one", (x, c) -> x.isSame(c, 0));
        cell("29 isSame: other", (x, c) -> x.isSame(0, c));
        cell("30 order: one", (x, c) -> x.order(c, 0));
        cell("30 order: other", (x, c) -> x.order(0, c));
        cell("31 isBelow: one", (x, c) -> x.isBelow(c, 0, true));
        cell("31 isBelow: other", (x, c) -> x.isBelow(0, c, false));
        cell("33 alike: cell", (x, c) -> x.alike(c));
    }

    private static void askingRefusesTheRest() {
        refuses("22 upper: its NUMBER is not told WHOLE", NOT_NOW, CELLS_NOT_WHOLE, (x, c) -> x.upper(c));
        refuses("23 lower: its NUMBER is not told WHOLE", NOT_NOW, CELLS_NOT_WHOLE, (x, c) -> x.lower(c));
        refuses("25 first: many is not 1 to 24", WRONG, NO_MANY, (x, n) -> x.first(7, n));
        takes(new int[] {1, 24}, (x, n) -> x.first(7, n));
        refuses("25 first: many is not 1 to 24, of a NOUGHT neither", WRONG, NO_MANY, (x, n) -> x.first(6, n));
        refuses("26 digit: place is not 0 to 23", WRONG, NO_PLACES, (x, p) -> x.digit(7, p));
        takes(new int[] {0, 23}, (x, p) -> x.digit(7, p));
        refuses("26 digit: place is not 0 to 23, of a NOUGHT neither", WRONG, NO_PLACES, (x, p) -> x.digit(6, p));
        refuses("27 floor: its HEIGHT is above 23", NOT_NOW, new int[] {7}, (x, c) -> x.floor(c));
        report.sentence("27 floor: HEIGHT 23 is taken, HEIGHT 24 is not");
        for (int what = 1; what <= 2; what++) {
            Chaincurves x = new Chaincurves();
            x.make(what, 138, 0);
            report.due("height of 138 eighths", x.height(0), 23);
            report.due("floor of it", x.floor(0), 15507786);
            x.make(what, 139, 0);
            report.due("height of 139 eighths", x.height(0), 24);
            report.dueThrow("floor of it", NOT_NOW, () -> x.floor(0));
            x.turn(0);
            report.dueThrow("floor of it turned", NOT_NOW, () -> x.floor(0));
        }
    }

    private static void functionAndEighths(String name, int least, int most, Call ofFunction, Call ofEighths) {
        refuses(name + ": what is not 1 to 3", WRONG, NO_FUNCTIONS, ofFunction);
        takes(new int[] {1, 2, 3}, ofFunction);
        eighths(name, least, most, ofEighths);
    }

    private static void eighths(String name, int least, int most, Call ofEighths) {
        refuses(name + ": eighths is not " + least + " or more", WRONG,
                new int[] {least - 1, least - 8, Integer.MIN_VALUE}, ofEighths);
        takes(new int[] {least}, ofEighths);
        refuses(name + ": eighths is not " + most + " or less", WRONG,
                new int[] {most + 1, most + 8, Integer.MAX_VALUE}, ofEighths);
        takes(new int[] {most}, ofEighths);
    }

    private static void askingFunctionsRefuses() {
        functionAndEighths("34 signOf", -320, 320, (x, w) -> x.signOf(w, 5), (x, k) -> x.signOf(2, k));
        functionAndEighths("35 heightOf", -320, 320, (x, w) -> x.heightOf(w, 5), (x, k) -> x.heightOf(2, k));
        functionAndEighths("36 firstOf", -320, 320, (x, w) -> x.firstOf(w, 5, 24), (x, k) -> x.firstOf(2, k, 1));
        refuses("36 firstOf: many not 1 to 24", WRONG, NO_MANY, (x, n) -> x.firstOf(3, 5, n));
        takes(new int[] {1, 24}, (x, n) -> x.firstOf(3, 5, n));
        refuses("36 firstOf: many not 1 to 24, of NOUGHT neither", WRONG, NO_MANY, (x, n) -> x.firstOf(3, 0, n));
        functionAndEighths("39 isRising", -320, 319, (x, w) -> x.isRising(w, 5), (x, k) -> x.isRising(2, k));
        eighths("40 isOne", -320, 320, (x, k) -> x.isOne(k));
        eighths("41 isMeeting", -320, 320, (x, k) -> x.isMeeting(k));
        eighths("42 isBounded", -320, 320, (x, k) -> x.isBounded(k));
        refuses("44 house: what is not 0 to 5", WRONG, NO_SIXTHS, (x, w) -> x.house(w));
        takes(new int[] {0, 5}, (x, w) -> x.house(w));
    }

    private static void lawsRefuse() {
        refuses("37 isTurned: what is not 1 to 3", WRONG, NO_FUNCTIONS, (x, w) -> x.isTurned(w, 0));
        takes(new int[] {1, 2, 3}, (x, w) -> x.isTurned(w, 0));
        refuses("37 isTurned: cell is not 0 to 7", NO_CELL, NO_CELLS, (x, c) -> x.isTurned(1, c));
        takes(CELLS_WITH_AN_ARGUMENT, (x, c) -> x.isTurned(1, c));
        refuses("38 isFormula: what is not 1 to 3", WRONG, NO_FUNCTIONS, (x, w) -> x.isFormula(w, 0));
        takes(new int[] {1, 2, 3}, (x, w) -> x.isFormula(w, 0));
        refuses("38 isFormula: cell is not 0 to 7", NO_CELL, NO_CELLS, (x, c) -> x.isFormula(1, c));
        takes(CELLS_WITH_AN_ARGUMENT, (x, c) -> x.isFormula(1, c));
        for (int what = 1; what <= 3; what++) {
            int function = what;
            refuses("37 isTurned: the NUMBER in cell is no ARGUMENT, function " + what, NOT_NOW,
                    CELLS_WITH_NO_ARGUMENT, (x, c) -> x.isTurned(function, c));
            refuses("38 isFormula: the NUMBER in cell is no ARGUMENT, function " + what, NOT_NOW,
                    CELLS_WITH_NO_ARGUMENT, (x, c) -> x.isFormula(function, c));
        }
    }

    private static void nearRefuses() {
        refuses("43 isNear: which is not 0 to 5", WRONG, NO_SIXTHS, (x, n) -> x.isNear(n, 0));
        takes(new int[] {0, 5}, (x, n) -> x.isNear(n, 0));
        int[] least = {-320, 0, -160, -160, -160, -8};
        int[] most = {320, 320, 160, 160, 160, 8};
        for (int which = 0; which <= 5; which++) {
            int two = which;
            eighths("43 isNear " + which, least[which], most[which], (x, k) -> x.isNear(two, k));
        }
    }

    /** "If several exceptions apply, the one that is named first is thrown." */
    private static void firstNamedIsThrown() {
        String first = ": the first named is thrown, ";
        refuses("4 put" + first + "cell before eighths", NO_CELL, NO_CELLS, (x, c) -> x.put(c, 321));
        refuses("4 sinh" + first + "into before no ARGUMENT", NO_CELL, NO_CELLS, (x, c) -> x.sinh(2, c));
        refuses("4 cosh" + first + "into before no ARGUMENT", NO_CELL, NO_CELLS, (x, c) -> x.cosh(3, c));
        refuses("4 tanh" + first + "into before no ARGUMENT", NO_CELL, NO_CELLS, (x, c) -> x.tanh(4, c));
        refuses("4 make" + first + "what before into", WRONG, NO_CELLS, (x, c) -> x.make(0, 5, c));
        refuses("4 make" + first + "eighths before into", WRONG, NO_CELLS, (x, c) -> x.make(1, -321, c));
        refuses("4 first" + first + "cell before many", NO_CELL, NO_CELLS, (x, c) -> x.first(c, 25));
        refuses("4 digit" + first + "cell before place", NO_CELL, NO_CELLS, (x, c) -> x.digit(c, -1));
        refuses("4 isTurned" + first + "what before cell", WRONG, NO_CELLS, (x, c) -> x.isTurned(4, c));
        refuses("4 isTurned" + first + "what before no ARGUMENT", WRONG, NO_FUNCTIONS, (x, w) -> x.isTurned(w, 7));
        refuses("4 isFormula" + first + "what before cell", WRONG, NO_CELLS, (x, c) -> x.isFormula(4, c));
        refuses("4 isFormula" + first + "what before no ARGUMENT", WRONG, NO_FUNCTIONS, (x, w) -> x.isFormula(w, 7));
    }

    private static void unchanged(String name, Call call) {
        report.sentence("4 What is asked changes nothing: " + name);
        for (int cell : CELLS_WITH_AN_ARGUMENT) {
            Chaincurves x = Cells.mixed();
            call.of(x, cell);
            report.due("all behind it, with cell " + cell, Cells.tell(x), UNTOUCHED);
        }
    }

    private static void questionsChangeNothing() {
        unchanged("sign", (x, c) -> x.sign(c));
        unchanged("isNought", (x, c) -> x.isNought(c));
        unchanged("isArgument", (x, c) -> x.isArgument(c));
        unchanged("eighths", (x, c) -> x.eighths(c));
        unchanged("origin", (x, c) -> x.origin(c));
        unchanged("source", (x, c) -> x.source(c));
        unchanged("isWhole", (x, c) -> x.isWhole(c));
        unchanged("upper", (x, c) -> x.upper(c));
        unchanged("lower", (x, c) -> x.lower(c));
        unchanged("height", (x, c) -> x.height(c));
        unchanged("first", (x, c) -> x.first(c, 24));
        unchanged("digit", (x, c) -> x.digit(c, 23));
        unchanged("floor", (x, c) -> x.floor(c));
        unchanged("text", (x, c) -> x.text(c));
        unchanged("isSame", (x, c) -> x.isSame(c, 7));
        unchanged("order", (x, c) -> x.order(c, 7));
        unchanged("isBelow", (x, c) -> x.isBelow(c, 7, true));
        unchanged("end", (x, c) -> x.end(c == 0));
        unchanged("alike", (x, c) -> x.alike(c));
        unchanged("signOf", (x, c) -> x.signOf(1, c));
        unchanged("heightOf", (x, c) -> x.heightOf(2, c));
        unchanged("firstOf", (x, c) -> x.firstOf(3, c, 24));
        unchanged("isTurned", (x, c) -> x.isTurned(1, c));
        unchanged("isFormula", (x, c) -> x.isFormula(2, c));
        unchanged("isRising", (x, c) -> x.isRising(3, c));
        unchanged("isOne", (x, c) -> x.isOne(c));
        unchanged("isMeeting", (x, c) -> x.isMeeting(c));
        unchanged("isBounded", (x, c) -> x.isBounded(c));
        unchanged("isNear", (x, c) -> x.isNear(5, c));
        unchanged("house", (x, c) -> x.house(5));
        unchanged("isSound", (x, c) -> x.isSound());
        unchanged("digest", (x, c) -> x.digest());
    }
}
