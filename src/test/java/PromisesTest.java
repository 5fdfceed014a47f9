/**
 * A test a promise, with answers written out by hand from the document: ordinary calls, the edges
 * that it names, and wrong inputs with the order of their exceptions.
 */
public final class PromisesTest {
    private static final Class<IndexOutOfBoundsException> NO_CELL = IndexOutOfBoundsException.class;
    private static final Class<IllegalArgumentException> WRONG = IllegalArgumentException.class;
    private static final Class<IllegalStateException> NOT_NOW = IllegalStateException.class;
    private static final int[] NO_CELLS = {-1, 8, Integer.MIN_VALUE, Integer.MAX_VALUE};

    private static final Report report = new Report("PromisesTest");

    public static void main(String[] args) {
        newObject();
        put();
        functions();
        make();
        turnAndBring();
        copyAndSwap();
        lesserAndGreater();
        empty();
        signsAndArguments();
        wholeAndDigits();
        heightAndFirst();
        floorAndText();
        sameAndOrder();
        endAndAlike();
        askedOfFunctions();
        laws();
        houseAndKnock();
        soundAndDigest();
        refusalsChangeNothing();
        wrongCells();
        report.close();
    }

    private static void due(String call, Object got, Object want) {
        report.due(call, got, want);
    }

    private static void refused(String call, Class<? extends RuntimeException> want, Runnable ask) {
        report.dueThrow(call, want, ask);
    }

    /** Promise 1. */
    private static void newObject() {
        Chaincurves x = new Chaincurves();
        for (int cell = 0; cell < 8; cell++) {
            due("new sign", x.sign(cell), 0);
            due("new isNought", x.isNought(cell), true);
            due("new origin", x.origin(cell), 0);
            due("new source", x.source(cell), 0);
            due("new alike", x.alike(cell), 8);
        }
        for (int what = 0; what < 4; what++) {
            due("new house " + what, x.house(what), 0);
        }
        Chaincurves y = new Chaincurves();
        x.put(0, 5);
        x.knock();
        due("two objects share nothing", y.eighths(0), 0);
        due("two objects share no knocks", y.knock(), 1);
    }

    /** Promises 2 and 3. */
    private static void put() {
        Chaincurves x = new Chaincurves();
        due("put of what is there", x.put(0, 0), 0);
        due("put", x.put(0, 12), 1);
        due("put again", x.put(0, 12), 0);
        due("put turned", x.put(0, -12), 1);
        due("eighths", x.eighths(0), -12);
        due("put most", x.put(7, 320), 1);
        due("put least", x.put(7, -320), 1);
        due("source is itself", x.source(7), -320);
        refused("put -321", WRONG, () -> x.put(0, -321));
        refused("put 321", WRONG, () -> x.put(0, 321));
        refused("put in no cell", NO_CELL, () -> x.put(8, 321));
        due("minus nought", x.putMinusNought(1), 1);
        due("minus nought again", x.putMinusNought(1), 0);
        due("its sign", x.sign(1), 1);
        due("its eighths", x.eighths(1), 0);
        due("its source", x.source(1), 0);
        due("nought over it", x.put(1, 0), 1);
        x.make(3, 200, 2);
        due("the same by another way", x.put(2, 8), 0);
        due("it comes with its origin all the same", x.origin(2), 0);
        due("and its source", x.source(2), 8);
    }

    /** Promises 4, 5 and 6. */
    private static void functions() {
        Chaincurves x = new Chaincurves();
        x.put(0, -8);
        due("sinh", x.sinh(0, 1), 1);
        due("sinh again", x.sinh(0, 1), 0);
        due("cosh", x.cosh(0, 2), 1);
        due("tanh", x.tanh(0, 3), 1);
        due("text of sinh", x.text(1), "-1.00101100110110011111110p0");
        due("first of sinh 1", x.first(1, 24), 9858302);
        due("sign of sinh -1", x.sign(1), 1);
        due("first of cosh 1", x.first(2, 24), 12944298);
        due("sign of cosh -1", x.sign(2), 0);
        due("upper of tanh -1", x.upper(3), 1072193274 - Integer.MAX_VALUE - 1);
        due("lower of tanh -1", x.lower(3), -1256918124);
        for (int cell = 1; cell <= 3; cell++) {
            due("origin", x.origin(cell), cell);
            due("source", x.source(cell), -8);
        }
        refused("sinh of an answer", NOT_NOW, () -> x.sinh(1, 4));
        refused("cosh of an answer", NOT_NOW, () -> x.cosh(2, 4));
        refused("tanh of an answer", NOT_NOW, () -> x.tanh(3, 4));
        refused("sinh of an answer into no cell", NO_CELL, () -> x.sinh(1, 8));
        refused("cosh of an answer into no cell", NO_CELL, () -> x.cosh(1, 8));
        refused("tanh of an answer into no cell", NO_CELL, () -> x.tanh(1, 8));
        due("into itself", x.sinh(0, 0), 1);
        due("into itself: source", x.source(0), -8);
        functionsOfNoughts();
        functionsOfAnswersThatAreArguments();
    }

    private static void functionsOfNoughts() {
        Chaincurves x = new Chaincurves();
        x.putMinusNought(0);
        due("sinh of minus nought", x.sinh(0, 1), 1);
        due("is the same", x.isSame(0, 1), true);
        due("origin", x.origin(1), 1);
        due("tanh of minus nought", x.tanh(0, 2), 1);
        due("is the same", x.isSame(0, 2), true);
        due("cosh of minus nought", x.cosh(0, 3), 1);
        due("is 1", x.eighths(3), 8);
        due("bring of it", x.bring(3), 1);
        due("its source was minus nought", x.sign(3), 1);
        due("sinh of nought", x.sinh(4, 5), 0);
        due("tanh of nought", x.tanh(4, 6), 0);
        due("cosh of nought", x.cosh(4, 4), 1);
        due("bring of nought's", x.bring(4), 1);
        due("its source was nought", x.sign(4), 0);
    }

    private static void functionsOfAnswersThatAreArguments() {
        Chaincurves x = new Chaincurves();
        x.make(3, -153, 0);
        due("tanh -153 is -1", x.eighths(0), -8);
        due("its source", x.source(0), -153);
        x.sinh(0, 1);
        due("source is that number itself", x.source(1), -8);
        x.turn(0);
        x.cosh(0, 2);
        due("source is that number turned", x.source(2), 8);
        x.make(3, 152, 3);
        due("tanh 152 is no argument", x.isArgument(3), false);
        refused("so no function of it", NOT_NOW, () -> x.tanh(3, 3));
    }

    /** Promise 7. */
    private static void make() {
        Chaincurves x = new Chaincurves();
        due("make", x.make(1, 150, 0), 1);
        due("the same by another function", x.make(2, 150, 0), 0);
        due("origin all the same", x.origin(0), 2);
        due("of it turned", x.make(2, -150, 0), 0);
        due("source all the same", x.source(0), -150);
        due("turned for sinh", x.make(1, -150, 0), 1);
        due("149 does not meet", x.make(1, 149, 0), 1);
        due("149 does not meet", x.make(2, 149, 0), 1);
        due("tanh 152", x.make(3, 152, 1), 1);
        due("tanh 149 is the same", x.make(3, 149, 1), 0);
        due("tanh 153 is not", x.make(3, 153, 1), 1);
        due("tanh 320 is 1", x.make(3, 320, 1), 0);
        due("tanh 0", x.make(3, 0, 2), 0);
        refused("make 0", WRONG, () -> x.make(0, 1, 0));
        refused("make 4", WRONG, () -> x.make(4, 1, 0));
        refused("make of 321", WRONG, () -> x.make(1, 321, 8));
        refused("make of -321", WRONG, () -> x.make(3, -321, 0));
        refused("make 4 in no cell", WRONG, () -> x.make(4, 1, 8));
        refused("make in no cell", NO_CELL, () -> x.make(1, 1, -1));
    }

    /** Promises 8 and 9. */
    private static void turnAndBring() {
        Chaincurves x = new Chaincurves();
        due("turn nought", x.turn(0), 1);
        due("is minus nought", x.text(0), "-0");
        due("turn it back", x.turn(0), 0);
        x.put(1, -3);
        due("turn", x.turn(1), 0);
        due("turned", x.eighths(1), 3);
        due("source stays", x.source(1), -3);
        due("bring", x.bring(1), 1);
        due("is what was put", x.eighths(1), -3);
        due("bring again", x.bring(1), 0);
        x.make(2, 9, 2);
        due("turn cosh", x.turn(2), 1);
        due("origin stays", x.origin(2), 2);
        due("bring its source", x.bring(2), 1);
        due("as put", x.origin(2), 0);
        due("with eighths", x.eighths(2), 9);
        due("turns are counted", x.house(1), 4);
    }

    /** Promises 10 and 11. */
    private static void copyAndSwap() {
        Chaincurves x = new Chaincurves();
        x.make(1, 9, 0);
        due("copy", x.copy(0, 1), 1);
        due("copy again", x.copy(0, 1), 0);
        due("copy to itself", x.copy(0, 0), 0);
        due("copied origin", x.origin(1), 1);
        due("copied source", x.source(1), 9);
        due("and stays", x.isSame(0, 1), true);
        x.put(2, 7);
        due("swap", x.swap(1, 2), 1);
        due("swapped there", x.eighths(1), 7);
        due("swapped origin there", x.origin(1), 0);
        due("swapped origin back", x.origin(2), 1);
        due("swapped source back", x.source(2), 9);
        due("swap the same", x.swap(0, 2), 0);
        due("swap with itself", x.swap(1, 1), 0);
        x.make(1, 160, 3);
        x.make(2, -160, 4);
        due("swap the same of two origins", x.swap(3, 4), 0);
        due("their origins change", x.origin(3), 2);
        due("their sources change", x.source(3), -160);
        due("swaps are counted apart", x.house(2), 4);
    }

    /** Promises 12 and 13. */
    private static void lesserAndGreater() {
        Chaincurves x = new Chaincurves();
        x.make(1, -9, 0);
        x.make(2, -9, 1);
        due("lesser", x.lesser(0, 1, 2), 1);
        due("is the first", x.origin(2), 1);
        due("lesser, other way round", x.lesser(1, 0, 2), 0);
        due("greater", x.greater(0, 1, 2), 1);
        due("is the second", x.origin(2), 2);
        due("its source", x.source(2), -9);
        x.putMinusNought(4);
        due("lesser of noughts is the first", x.lesser(3, 4, 5), 0);
        due("so nought", x.sign(5), 0);
        due("greater of noughts is the first", x.greater(4, 3, 5), 1);
        due("so minus nought", x.sign(5), 1);
        x.make(1, 170, 6);
        x.make(2, 170, 7);
        due("lesser of the same is the first", x.lesser(7, 6, 0), 1);
        due("by its origin", x.origin(0), 2);
        due("greater of the same is the first", x.greater(6, 7, 0), 0);
        due("by its origin", x.origin(0), 1);
        due("into one of both", x.lesser(6, 3, 6), 1);
        due("is nought", x.isNought(6), true);
    }

    /** Promise 14. */
    private static void empty() {
        Chaincurves x = new Chaincurves();
        due("empty at first", x.empty(), 0);
        x.put(0, 1);
        x.make(2, 1, 1);
        x.make(1, 0, 2);
        x.putMinusNought(3);
        x.turn(4);
        x.swap(5, 6);
        x.knock();
        due("empty", x.empty(), 4);
        due("no origins", x.origin(2), 0);
        due("no sources", x.source(1), 0);
        due("all noughts", x.alike(3), 8);
        due("arrivals stay", x.house(0), 4);
        due("turns stay", x.house(1), 1);
        due("swaps stay", x.house(2), 1);
        due("knocks stay", x.house(3), 1);
    }

    /** Promises 15 to 20. */
    private static void signsAndArguments() {
        Chaincurves x = new Chaincurves();
        x.put(1, -1);
        due("sign", x.sign(1), 1);
        due("isNought of -1/8", x.isNought(1), false);
        x.putMinusNought(2);
        due("isNought of minus nought", x.isNought(2), true);
        due("minus nought is an argument", x.isArgument(2), true);
        x.make(1, 1, 3);
        due("sinh 1 is no argument", x.isArgument(3), false);
        due("so it has no eighths", x.eighths(3), -999);
        x.make(3, 200, 4);
        due("tanh 200 is an argument", x.isArgument(4), true);
        due("of 8 eighths", x.eighths(4), 8);
        due("its origin", x.origin(4), 3);
        due("its source", x.source(4), 200);
        x.turn(4);
        due("turned", x.eighths(4), -8);
        due("the origin stays", x.origin(4), 3);
        due("the source stays", x.source(4), 200);
    }

    /** Promises 21 to 23. */
    private static void wholeAndDigits() {
        Chaincurves x = new Chaincurves();
        x.put(0, -12);
        due("arguments are whole", x.isWhole(0), true);
        due("upper of -1.5", x.upper(0), 0xBFF80000);
        due("lower of -1.5", x.lower(0), 0);
        x.make(2, 0, 1);
        due("cosh 0 is whole", x.isWhole(1), true);
        due("upper of 1", x.upper(1), 0x3FF00000);
        x.make(3, -6, 2);
        due("upper of tanh -6", x.upper(2), -1075555549);
        due("lower of tanh -6", x.lower(2), -447548888);
        x.turn(2);
        due("upper of it turned", x.upper(2), 1071928099);
        x.make(3, 152, 3);
        due("upper of tanh 152", x.upper(3), 1072693247);
        due("lower of tanh 152", x.lower(3), -1);
        int[][] untold = {{3, 1}, {3, -1}, {3, 7}, {3, -7}, {1, 1}, {1, -320}, {2, 1}, {2, 150}};
        for (int[] made : untold) {
            x.make(made[0], made[1], 4);
            due("isWhole of " + made[0] + " of " + made[1], x.isWhole(4), false);
            refused("upper of it", NOT_NOW, () -> x.upper(4));
            refused("lower of it", NOT_NOW, () -> x.lower(4));
        }
        due("those told whole", x.house(5), 7);
        due("the arguments", x.house(4), 5);
    }

    /** Promises 24 to 26. */
    private static void heightAndFirst() {
        Chaincurves x = new Chaincurves();
        x.put(0, 320);
        due("height of 40", x.height(0), 5);
        due("first 6 of 40", x.first(0, 6), 40);
        due("first 3 of 40", x.first(0, 3), 5);
        due("digit 0", x.digit(0, 0), 1);
        due("digit 1", x.digit(0, 1), 0);
        due("digit 2", x.digit(0, 2), 1);
        due("digit 23", x.digit(0, 23), 0);
        x.put(1, -1);
        due("height of -1/8", x.height(1), -3);
        due("first 1 of -1/8", x.first(1, 1), 1);
        due("first 24 of -1/8", x.first(1, 24), 1 << 23);
        due("height of nought", x.height(2), -1023);
        due("first of nought", x.first(2, 24), 0);
        due("digit of nought", x.digit(2, 0), 0);
        x.make(1, -320, 3);
        due("height of sinh", x.height(3), 56);
        due("first of sinh", x.first(3, 24), 13701225);
        due("last digit of these", x.digit(3, 23), 1);
        for (int many : new int[] {0, 25, -1, Integer.MIN_VALUE, Integer.MAX_VALUE}) {
            refused("first " + many, WRONG, () -> x.first(0, many));
            refused("digit " + (many - 1), WRONG, () -> x.digit(0, many - 1));
        }
        refused("first 0 in no cell", NO_CELL, () -> x.first(8, 0));
        refused("digit 24 in no cell", NO_CELL, () -> x.digit(8, 24));
    }

    /** Promises 27 and 28. */
    private static void floorAndText() {
        Chaincurves x = new Chaincurves();
        int[][] floors = {{0, 0}, {1, 0}, {7, 0}, {8, 1}, {9, 1}, {15, 1}, {16, 2}, {320, 40},
            {-1, -1}, {-8, -1}, {-9, -2}, {-16, -2}, {-17, -3}, {-320, -40}};
        for (int[] floor : floors) {
            x.put(0, floor[0]);
            due("floor of " + floor[0] + " eighths", x.floor(0), floor[1]);
        }
        x.putMinusNought(0);
        due("floor of minus nought", x.floor(0), 0);
        x.make(1, 138, 1);
        due("floor of sinh 138", x.floor(1), 15507786);
        x.turn(1);
        due("floor of it turned", x.floor(1), -15507787);
        x.make(3, 152, 2);
        due("floor below 1", x.floor(2), 0);
        x.make(2, 139, 3);
        refused("floor with height 24", NOT_NOW, () -> x.floor(3));
        due("text of minus nought", x.text(0), "-0");
        due("text of nought", x.text(7), "0");
        x.put(4, -11);
        due("text of -11/8", x.text(4), "-1.01100000000000000000000p0");
        x.put(4, 1);
        due("text of 1/8", x.text(4), "1.00000000000000000000000p-3");
        x.make(1, 320, 4);
        due("text of sinh 320", x.text(4), "1.10100010001000001101001p56");
    }

    /** Promises 29 to 31. */
    private static void sameAndOrder() {
        Chaincurves x = new Chaincurves();
        x.putMinusNought(1);
        due("noughts are not the same", x.isSame(0, 1), false);
        due("but have the same value", x.order(0, 1), 0);
        due("so none is below", x.isBelow(1, 0, false), false);
        due("or the same", x.isBelow(1, 0, true), true);
        x.put(2, -5);
        x.put(3, -6);
        due("order of -5 and -6", x.order(2, 3), 1);
        due("order of -6 and -5", x.order(3, 2), -1);
        due("below", x.isBelow(3, 2, false), true);
        due("not below", x.isBelow(2, 3, true), false);
        x.make(1, 1, 4);
        x.put(5, 1);
        x.make(3, 1, 6);
        due("sinh is above", x.order(4, 5), 1);
        due("tanh is below", x.order(6, 5), -1);
        due("the same cell", x.order(4, 4), 0);
        due("the same cell", x.isSame(4, 4), true);
        x.make(1, 149, 4);
        x.make(2, 149, 5);
        due("sinh 149 below cosh 149", x.order(4, 5), -1);
        x.turn(4);
        x.turn(5);
        due("turned the other way", x.order(4, 5), 1);
    }

    /** Promises 32 and 33. */
    private static void endAndAlike() {
        Chaincurves x = new Chaincurves();
        due("greatest of noughts", x.end(true), 0);
        due("least of noughts", x.end(false), 0);
        x.turn(0);
        due("minus nought is no less", x.end(false), 0);
        due("and no greater", x.end(true), 0);
        x.put(2, 4);
        x.put(5, 4);
        x.put(3, -4);
        x.put(6, -4);
        due("greatest", x.end(true), 2);
        due("least", x.end(false), 3);
        due("alike", x.alike(5), 2);
        due("alike noughts", x.alike(1), 3);
        due("alike minus nought", x.alike(0), 1);
        x.make(1, 300, 7);
        x.make(2, -300, 4);
        due("greatest answer", x.end(true), 4);
        due("alike answers", x.alike(7), 2);
    }

    /** Promises 34 to 36 and 39 to 41; FunctionsTest asks the rest. */
    private static void askedOfFunctions() {
        Chaincurves x = new Chaincurves();
        due("signOf sinh -1", x.signOf(1, -1), 1);
        due("signOf cosh -1", x.signOf(2, -1), 0);
        due("signOf tanh 0", x.signOf(3, 0), 0);
        due("heightOf sinh 0", x.heightOf(1, 0), -1023);
        due("heightOf cosh 0", x.heightOf(2, 0), 0);
        due("heightOf tanh 1", x.heightOf(3, 1), -4);
        due("firstOf tanh 1", x.firstOf(3, 1, 24), 16690377);
        due("firstOf tanh 7", x.firstOf(3, -7, 24), 11809576);
        due("firstOf tanh 0", x.firstOf(3, 0, 24), 0);
        due("firstOf cosh 0", x.firstOf(2, 0, 3), 4);
        due("isRising tanh 145", x.isRising(3, 145), false);
        due("isRising tanh 146", x.isRising(3, 146), true);
        due("isRising tanh 152", x.isRising(3, 152), true);
        due("isRising tanh 153", x.isRising(3, 153), false);
        due("isRising cosh -1", x.isRising(2, -1), false);
        due("isRising cosh 0", x.isRising(2, 0), true);
        due("isRising sinh 319", x.isRising(1, 319), true);
        due("isOne 152", x.isOne(152), false);
        due("isOne 153", x.isOne(153), true);
        due("isOne -153", x.isOne(-153), false);
        due("isMeeting 149", x.isMeeting(149), false);
        due("isMeeting 150", x.isMeeting(150), true);
        due("isMeeting -150", x.isMeeting(-150), false);
    }

    /** Promises 37, 38, 42 and 43. */
    private static void laws() {
        Chaincurves x = new Chaincurves();
        x.putMinusNought(0);
        x.put(1, -7);
        x.make(3, 5, 2);
        for (int what = 1; what <= 3; what++) {
            int function = what;
            due("isTurned of minus nought", x.isTurned(what, 0), true);
            due("isTurned", x.isTurned(what, 1), true);
            due("isFormula of minus nought", x.isFormula(what, 0), true);
            due("isFormula", x.isFormula(what, 1), true);
            refused("isTurned of an answer", NOT_NOW, () -> x.isTurned(function, 2));
            refused("isFormula of an answer", NOT_NOW, () -> x.isFormula(function, 2));
            refused("isTurned of no cell", NO_CELL, () -> x.isTurned(function, 8));
            refused("isFormula of no cell", NO_CELL, () -> x.isFormula(function, -1));
        }
        refused("isTurned 0 of no cell", WRONG, () -> x.isTurned(0, 8));
        refused("isTurned 4 of an answer", WRONG, () -> x.isTurned(4, 2));
        refused("isFormula 0 of no cell", WRONG, () -> x.isFormula(0, 8));
        refused("isFormula 4 of an answer", WRONG, () -> x.isFormula(4, 2));
        due("isBounded", x.isBounded(-320), true);
        refused("isBounded 321", WRONG, () -> x.isBounded(321));
        due("isNear 1 of 0", x.isNear(1, 0), true);
        refused("isNear 1 of -1", WRONG, () -> x.isNear(1, -1));
        refused("isNear 4 of 161", WRONG, () -> x.isNear(4, 161));
        refused("isNear 5 of -9", WRONG, () -> x.isNear(5, -9));
        refused("isNear 6", WRONG, () -> x.isNear(6, 0));
    }

    /** Promises 44 and 45. */
    private static void houseAndKnock() {
        Chaincurves x = new Chaincurves();
        x.put(0, 1);
        x.putMinusNought(1);
        x.sinh(0, 2);
        x.cosh(0, 3);
        x.tanh(0, 4);
        x.make(3, 2, 5);
        x.bring(5);
        x.copy(0, 0);
        x.lesser(0, 1, 6);
        x.greater(0, 1, 7);
        due("each of the ten is counted", x.house(0), 10);
        x.turn(0);
        x.swap(0, 0);
        x.swap(0, 1);
        due("turns", x.house(1), 1);
        due("swaps", x.house(2), 2);
        due("knock", x.knock(), 1);
        due("knock again", x.knock(), 2);
        due("knocks", x.house(3), 2);
        due("arguments", x.house(4), 5);
        due("whole", x.house(5), 5);
        x.make(3, 2, 2);
        due("one more is whole", x.house(5), 6);
        due("but no argument", x.house(4), 5);
        due("questions and others are not counted", x.house(0), 11);
        for (int wrong : new int[] {-1, 6, Integer.MIN_VALUE, Integer.MAX_VALUE}) {
            refused("house " + wrong, WRONG, () -> x.house(wrong));
        }
    }

    /** Promises 46 and 47. */
    private static void soundAndDigest() {
        Chaincurves x = new Chaincurves();
        due("sound at first", x.isSound(), true);
        // v is 0 0 0 0 8 8, then eight times 0 1 0 0 0 -1023 0 1 8 0 0, then 0 0, seven 0, 1.
        long d = 7897;
        for (long v : new long[] {0, 0, 0, 0, 8, 8}) {
            d = d * 31 + v;
        }
        for (int cell = 0; cell < 8; cell++) {
            for (long v : new long[] {0, 1, 0, 0, 0, -1023, 0, 1, 8, 0, 0}) {
                d = d * 31 + v;
            }
        }
        for (long v : new long[] {0, 0, 0, 0, 0, 0, 0, 0, 0, 1}) {
            d = d * 31 + v;
        }
        due("digest at first", x.digest(), d);
        due("digest changes nothing", x.digest(), d);
        x.make(1, 5, 0);
        x.turn(0);
        x.make(2, -320, 1);
        x.make(3, 7, 2);
        x.putMinusNought(3);
        x.put(4, -8);
        x.turn(4);
        due("sound behind that", x.isSound(), true);
        due("digest differs", x.digest() != d, true);
    }

    private static void refusalsChangeNothing() {
        Chaincurves x = new Chaincurves();
        x.make(2, 5, 0);
        long before = x.digest();
        refused("put", WRONG, () -> x.put(0, 321));
        refused("sinh", NOT_NOW, () -> x.sinh(0, 0));
        refused("cosh", NOT_NOW, () -> x.cosh(0, 1));
        refused("tanh", NOT_NOW, () -> x.tanh(0, 2));
        refused("make", WRONG, () -> x.make(4, 0, 0));
        refused("turn", NO_CELL, () -> x.turn(8));
        refused("swap", NO_CELL, () -> x.swap(0, 8));
        refused("copy", NO_CELL, () -> x.copy(0, 8));
        refused("lesser", NO_CELL, () -> x.lesser(0, 1, 8));
        refused("greater", NO_CELL, () -> x.greater(0, 8, 1));
        refused("floor", NO_CELL, () -> x.floor(8));
        due("digest", x.digest(), before);
    }

    /** Each call with a cell, with each of its cells wrong. */
    private static void wrongCells() {
        Chaincurves x = new Chaincurves();
        for (int no : NO_CELLS) {
            refused("put", NO_CELL, () -> x.put(no, 1));
            refused("putMinusNought", NO_CELL, () -> x.putMinusNought(no));
            refused("sinh", NO_CELL, () -> x.sinh(no, 0));
            refused("sinh", NO_CELL, () -> x.sinh(0, no));
            refused("cosh", NO_CELL, () -> x.cosh(no, 0));
            refused("cosh", NO_CELL, () -> x.cosh(0, no));
            refused("tanh", NO_CELL, () -> x.tanh(no, 0));
            refused("tanh", NO_CELL, () -> x.tanh(0, no));
            refused("make", NO_CELL, () -> x.make(1, 1, no));
            refused("turn", NO_CELL, () -> x.turn(no));
            refused("bring", NO_CELL, () -> x.bring(no));
            refused("copy", NO_CELL, () -> x.copy(no, 0));
            refused("copy", NO_CELL, () -> x.copy(0, no));
            refused("swap", NO_CELL, () -> x.swap(no, 0));
            refused("swap", NO_CELL, () -> x.swap(0, no));
            refused("lesser", NO_CELL, () -> x.lesser(no, 0, 0));
            refused("lesser", NO_CELL, () -> x.lesser(0, no, 0));
            refused("lesser", NO_CELL, () -> x.lesser(0, 0, no));
            refused("greater", NO_CELL, () -> x.greater(no, 0, 0));
            refused("greater", NO_CELL, () -> x.greater(0, no, 0));
            refused("greater", NO_CELL, () -> x.greater(0, 0, no));
            refused("sign", NO_CELL, () -> x.sign(no));
            refused("isNought", NO_CELL, () -> x.isNought(no));
            refused("isArgument", NO_CELL, () -> x.isArgument(no));
            refused("eighths", NO_CELL, () -> x.eighths(no));
            refused("origin", NO_CELL, () -> x.origin(no));
            refused("source", NO_CELL, () -> x.source(no));
            refused("isWhole", NO_CELL, () -> x.isWhole(no));
            refused("upper", NO_CELL, () -> x.upper(no));
            refused("lower", NO_CELL, () -> x.lower(no));
            refused("height", NO_CELL, () -> x.height(no));
            refused("first", NO_CELL, () -> x.first(no, 1));
            refused("digit", NO_CELL, () -> x.digit(no, 0));
            refused("floor", NO_CELL, () -> x.floor(no));
            refused("text", NO_CELL, () -> x.text(no));
            refused("isSame", NO_CELL, () -> x.isSame(no, 0));
            refused("isSame", NO_CELL, () -> x.isSame(0, no));
            refused("order", NO_CELL, () -> x.order(no, 0));
            refused("order", NO_CELL, () -> x.order(0, no));
            refused("isBelow", NO_CELL, () -> x.isBelow(no, 0, true));
            refused("isBelow", NO_CELL, () -> x.isBelow(0, no, false));
            refused("alike", NO_CELL, () -> x.alike(no));
            refused("isTurned", NO_CELL, () -> x.isTurned(1, no));
            refused("isFormula", NO_CELL, () -> x.isFormula(1, no));
        }
        due("nothing of it is counted", x.house(0) + x.house(1) + x.house(2), 0);
    }
}
