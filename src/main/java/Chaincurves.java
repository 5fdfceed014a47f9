/**
 * Eight cells of numbers of 64 binary digits: whole numbers of eighths from -40 to 40, and what
 * the three hyperbolic functions make of them.
 *
 * <p>A number is held as its 64 digits in a long. Each cell has its number, its origin (which
 * function made it, 0 if it was put) and its source (the digits of the argument it came from).
 */
public final class Chaincurves {
    private static final int CELLS = 8;
    private static final int PUT = 0;
    private static final int SINH = 1;
    private static final int COSH = 2;
    private static final int TANH = 3;
    private static final int MOST_EIGHTHS = 320;
    private static final int EIGHTHS_OF_ONE = 8;
    private static final int MOST_DIGITS = 24;
    private static final int MOST_HEIGHT_OF_FLOOR = 23;

    private final long[] numbers = new long[CELLS];
    private final int[] origins = new int[CELLS];
    private final long[] sources = new long[CELLS];
    private int arrivals;
    private int turns;
    private int swaps;
    private int knocks;

    public Chaincurves() {
        // The digits of NOUGHT are all 0, as new rows are: every cell has NOUGHT, put, already.
    }

    // ---- what comes to the cells

    public int put(int cell, int eighths) throws IndexOutOfBoundsException, IllegalArgumentException {
        checkCell(cell);
        checkEighths(eighths);
        return arriveAsPut(cell, Digits.ofEighths(eighths));
    }

    public int putMinusNought(int cell) throws IndexOutOfBoundsException {
        checkCell(cell);
        return arriveAsPut(cell, Digits.MINUS_NOUGHT);
    }

    public int sinh(int cell, int into) throws IndexOutOfBoundsException, IllegalStateException {
        return applyToCell(SINH, cell, into);
    }

    public int cosh(int cell, int into) throws IndexOutOfBoundsException, IllegalStateException {
        return applyToCell(COSH, cell, into);
    }

    public int tanh(int cell, int into) throws IndexOutOfBoundsException, IllegalStateException {
        return applyToCell(TANH, cell, into);
    }

    public int make(int what, int eighths, int into) throws IllegalArgumentException, IndexOutOfBoundsException {
        checkFunction(what);
        checkEighths(eighths);
        checkCell(into);
        return arriveFromFunction(what, Digits.ofEighths(eighths), into);
    }

    public int turn(int cell) throws IndexOutOfBoundsException {
        checkCell(cell);
        numbers[cell] = Digits.turned(numbers[cell]);
        turns++;
        return Digits.signIn(numbers[cell]);
    }

    public int bring(int cell) throws IndexOutOfBoundsException {
        checkCell(cell);
        return arriveAsPut(cell, sources[cell]);
    }

    public int copy(int cell, int into) throws IndexOutOfBoundsException {
        checkCell(cell);
        checkCell(into);
        return arriveFromCell(cell, into);
    }

    public int swap(int cell, int other) throws IndexOutOfBoundsException {
        checkCell(cell);
        checkCell(other);
        long number = numbers[cell];
        int origin = origins[cell];
        long source = sources[cell];
        int changed = setCell(cell, numbers[other], origins[other], sources[other]);
        setCell(other, number, origin, source);
        swaps++;
        return changed;
    }

    public int lesser(int one, int other, int into) throws IndexOutOfBoundsException {
        checkCell(one);
        checkCell(other);
        checkCell(into);
        return arriveFromCell(compareCells(other, one) < 0 ? other : one, into);
    }

    public int greater(int one, int other, int into) throws IndexOutOfBoundsException {
        checkCell(one);
        checkCell(other);
        checkCell(into);
        return arriveFromCell(compareCells(other, one) > 0 ? other : one, into);
    }

    public int empty() {
        int changed = 0;
        for (int cell = 0; cell < CELLS; cell++) {
            changed += setCell(cell, Digits.NOUGHT, PUT, Digits.NOUGHT);
        }
        return changed;
    }

    // ---- what is asked of cells

    public int sign(int cell) throws IndexOutOfBoundsException {
        checkCell(cell);
        return Digits.signIn(numbers[cell]);
    }

    public boolean isNought(int cell) throws IndexOutOfBoundsException {
        checkCell(cell);
        return Digits.hasNoSize(numbers[cell]);
    }

    public boolean isArgument(int cell) throws IndexOutOfBoundsException {
        checkCell(cell);
        return hasArgument(cell);
    }

    public int eighths(int cell) throws IndexOutOfBoundsException {
        checkCell(cell);
        return Digits.eighthsIn(numbers[cell]);
    }

    public int origin(int cell) throws IndexOutOfBoundsException {
        checkCell(cell);
        return origins[cell];
    }

    public int source(int cell) throws IndexOutOfBoundsException {
        checkCell(cell);
        return Digits.eighthsIn(sources[cell]);
    }

    public boolean isWhole(int cell) throws IndexOutOfBoundsException {
        checkCell(cell);
        return isToldWhole(cell);
    }

    public int upper(int cell) throws IndexOutOfBoundsException, IllegalStateException {
        checkCell(cell);
        checkToldWhole(cell);
        return (int) (numbers[cell] >>> 32);
    }

    public int lower(int cell) throws IndexOutOfBoundsException, IllegalStateException {
        checkCell(cell);
        checkToldWhole(cell);
        return (int) numbers[cell];
    }

    public int height(int cell) throws IndexOutOfBoundsException {
        checkCell(cell);
        return Digits.heightIn(numbers[cell]);
    }

    public int first(int cell, int many) throws IndexOutOfBoundsException, IllegalArgumentException {
        checkCell(cell);
        checkMany(many);
        return Digits.firstIn(numbers[cell], many);
    }

    public int digit(int cell, int place) throws IndexOutOfBoundsException, IllegalArgumentException {
        checkCell(cell);
        checkPlace(place);
        return Digits.firstIn(numbers[cell], place + 1) & 1;
    }

    public int floor(int cell) throws IndexOutOfBoundsException, IllegalStateException {
        checkCell(cell);
        checkHasFloor(cell);
        return Digits.floorIn(numbers[cell]);
    }

    public String text(int cell) throws IndexOutOfBoundsException {
        checkCell(cell);
        StringBuilder line = new StringBuilder();
        Digits.write(line, numbers[cell]);
        return line.toString();
    }

    public boolean isSame(int one, int other) throws IndexOutOfBoundsException {
        checkCell(one);
        checkCell(other);
        return numbers[one] == numbers[other];
    }

    public int order(int one, int other) throws IndexOutOfBoundsException {
        checkCell(one);
        checkCell(other);
        return compareCells(one, other);
    }

    public boolean isBelow(int one, int other, boolean orSame) throws IndexOutOfBoundsException {
        checkCell(one);
        checkCell(other);
        int order = compareCells(one, other);
        return order < 0 || orSame && order == 0;
    }

    public int end(boolean isGreatest) {
        int wanted = isGreatest ? 1 : -1;
        int best = 0;
        for (int cell = 1; cell < CELLS; cell++) {
            if (compareCells(cell, best) == wanted) {
                best = cell;
            }
        }
        return best;
    }

    public int alike(int cell) throws IndexOutOfBoundsException {
        checkCell(cell);
        int count = 0;
        for (int other = 0; other < CELLS; other++) {
            if (numbers[other] == numbers[cell]) {
                count++;
            }
        }
        return count;
    }

    // ---- what is asked of the functions

    public int signOf(int what, int eighths) throws IllegalArgumentException {
        checkFunction(what);
        checkEighths(eighths);
        return Digits.signIn(Curves.answer(what, Digits.ofEighths(eighths)));
    }

    public int heightOf(int what, int eighths) throws IllegalArgumentException {
        checkFunction(what);
        checkEighths(eighths);
        return Digits.heightIn(Curves.answer(what, Digits.ofEighths(eighths)));
    }

    public int firstOf(int what, int eighths, int many) throws IllegalArgumentException {
        checkFunction(what);
        checkEighths(eighths);
        checkMany(many);
        return Digits.firstIn(Curves.answer(what, Digits.ofEighths(eighths)), many);
    }

    public boolean isTurned(int what, int cell)
            throws IllegalArgumentException, IndexOutOfBoundsException, IllegalStateException {
        checkFunction(what);
        checkCell(cell);
        checkArgument(cell);
        return Curves.keepsTurning(what, numbers[cell]);
    }

    public boolean isFormula(int what, int cell)
            throws IllegalArgumentException, IndexOutOfBoundsException, IllegalStateException {
        checkFunction(what);
        checkCell(cell);
        checkArgument(cell);
        // There is no other way here to an answer than the formula, so the two are one number.
        return true;
    }

    public boolean isRising(int what, int eighths) throws IllegalArgumentException {
        checkFunction(what);
        checkEighths(eighths);
        // Behind the last argument there is none to rise to.
        checkNotLast(eighths);
        long here = Curves.answer(what, Digits.ofEighths(eighths));
        long next = Curves.answer(what, Digits.ofEighths(eighths + 1));
        return Digits.compareValues(here, next) < 0;
    }

    public boolean isOne(int eighths) throws IllegalArgumentException {
        checkEighths(eighths);
        return Curves.answer(TANH, Digits.ofEighths(eighths)) == Digits.ofEighths(EIGHTHS_OF_ONE);
    }

    public boolean isMeeting(int eighths) throws IllegalArgumentException {
        checkEighths(eighths);
        long argument = Digits.ofEighths(eighths);
        return Curves.answer(SINH, argument) == Curves.answer(COSH, argument);
    }

    public boolean isBounded(int eighths) throws IllegalArgumentException {
        checkEighths(eighths);
        return Curves.keepsBounds(Digits.ofEighths(eighths));
    }

    public boolean isNear(int which, int eighths) throws IllegalArgumentException {
        checkNear(which, eighths);
        return Curves.keepsNear(which, eighths);
    }

    // ---- the whole

    public int house(int what) throws IllegalArgumentException {
        checkHouse(what);
        switch (what) {
            case 0:
                return arrivals;
            case 1:
                return turns;
            case 2:
                return swaps;
            case 3:
                return knocks;
            case 4:
                return countArguments();
            default:
                return countToldWhole();
        }
    }

    public int knock() {
        knocks++;
        return knocks;
    }

    public boolean isSound() {
        for (int cell = 0; cell < CELLS; cell++) {
            if (!tellsFirstDigits(cell) || !comesFromSource(cell)) {
                return false;
            }
            for (int what = SINH; what <= TANH; what++) {
                // isFormula() is so wherever there is an argument, so isTurned() alone is open.
                if (hasArgument(cell) && !Curves.keepsTurning(what, numbers[cell])) {
                    return false;
                }
            }
            for (int other = 0; other < CELLS; other++) {
                if (!isOrdered(cell, other)) {
                    return false;
                }
            }
        }
        return true;
    }

    public long digest() {
        StringBuilder line = new StringBuilder();
        long d = 7897;
        for (int what = 0; what <= 5; what++) {
            d = d * 31 + house(what);
        }
        for (int cell = 0; cell < CELLS; cell++) {
            d = digestCell(d, cell, line);
        }
        d = d * 31 + end(true);
        d = d * 31 + end(false);
        for (int cell = 0; cell + 1 < CELLS; cell++) {
            d = d * 31 + compareCells(cell, cell + 1);
        }
        return d * 31 + (isSound() ? 1 : 0);
    }

    private long digestCell(long before, int cell, StringBuilder line) {
        long number = numbers[cell];
        line.setLength(0);
        Digits.write(line, number);
        long d = before;
        d = d * 31 + Digits.signIn(number);
        d = d * 31 + (Digits.hasNoSize(number) ? 1 : 0);
        d = d * 31 + Digits.eighthsIn(number);
        d = d * 31 + origins[cell];
        d = d * 31 + Digits.eighthsIn(sources[cell]);
        d = d * 31 + Digits.heightIn(number);
        d = d * 31 + Digits.firstIn(number, MOST_DIGITS);
        d = d * 31 + line.length();
        d = d * 31 + alike(cell);
        if (isToldWhole(cell)) {
            d = d * 31 + (int) (number >>> 32);
            d = d * 31 + (int) number;
        }
        return d;
    }

    // ---- how things come to a cell

    private int applyToCell(int what, int cell, int into) {
        checkCell(cell);
        checkCell(into);
        checkArgument(cell);
        return arriveFromFunction(what, numbers[cell], into);
    }

    private int arriveFromFunction(int what, long argument, int into) {
        arrivals++;
        return setCell(into, Curves.answer(what, argument), what, argument);
    }

    private int arriveAsPut(int into, long argument) {
        arrivals++;
        return setCell(into, argument, PUT, argument);
    }

    private int arriveFromCell(int cell, int into) {
        arrivals++;
        return setCell(into, numbers[cell], origins[cell], sources[cell]);
    }

    private int setCell(int cell, long number, int origin, long source) {
        int changed = numbers[cell] == number ? 0 : 1;
        numbers[cell] = number;
        origins[cell] = origin;
        sources[cell] = source;
        return changed;
    }

    // ---- what several questions need

    private int compareCells(int one, int other) {
        return Digits.compareValues(numbers[one], numbers[other]);
    }

    private boolean hasArgument(int cell) {
        return Digits.eighthsIn(numbers[cell]) != Digits.NO_EIGHTHS;
    }

    private boolean isToldWhole(int cell) {
        if (hasArgument(cell)) {
            return true;
        }
        int eighths = Math.abs(Digits.eighthsIn(sources[cell]));
        return origins[cell] == TANH && eighths != 1 && eighths != 7;
    }

    private int countArguments() {
        int count = 0;
        for (int cell = 0; cell < CELLS; cell++) {
            if (hasArgument(cell)) {
                count++;
            }
        }
        return count;
    }

    private int countToldWhole() {
        int count = 0;
        for (int cell = 0; cell < CELLS; cell++) {
            if (isToldWhole(cell)) {
                count++;
            }
        }
        return count;
    }

    private boolean tellsFirstDigits(int cell) {
        boolean isNought = Digits.hasNoSize(numbers[cell]);
        for (int many = 1; many <= MOST_DIGITS; many++) {
            int first = Digits.firstIn(numbers[cell], many);
            // Of so many digits is what has no digit before them and a 1 as the first one.
            if (isNought ? first != 0 : first >> (many - 1) != 1) {
                return false;
            }
        }
        return true;
    }

    private boolean comesFromSource(int cell) {
        long due = origins[cell] == PUT ? sources[cell] : Curves.answer(origins[cell], sources[cell]);
        return numbers[cell] == due || numbers[cell] == Digits.turned(due);
    }

    private boolean isOrdered(int one, int other) {
        int order = compareCells(one, other);
        return order == -compareCells(other, one) && (numbers[one] != numbers[other] || order == 0);
    }

    // ---- the exceptions

    private static void checkCell(int cell) {
        if (cell < 0 || cell >= CELLS) {
            throw new IndexOutOfBoundsException("a cell is 0 to 7");
        }
    }

    private static void checkEighths(int eighths) {
        if (eighths < -MOST_EIGHTHS || eighths > MOST_EIGHTHS) {
            throw new IllegalArgumentException("eighths are -320 to 320");
        }
    }

    private static void checkNotLast(int eighths) {
        if (eighths >= MOST_EIGHTHS) {
            throw new IllegalArgumentException("eighths are -320 to 319 here");
        }
    }

    private static void checkFunction(int what) {
        if (what < SINH || what > TANH) {
            throw new IllegalArgumentException("a function is 1 to 3");
        }
    }

    private static void checkMany(int many) {
        if (many < 1 || many > MOST_DIGITS) {
            throw new IllegalArgumentException("so many digits are 1 to 24");
        }
    }

    private static void checkPlace(int place) {
        if (place < 0 || place >= MOST_DIGITS) {
            throw new IllegalArgumentException("a place is 0 to 23");
        }
    }

    private static void checkNear(int which, int eighths) {
        if (which < 0 || which > 5) {
            throw new IllegalArgumentException("which two is 0 to 5");
        }
        int most = which == 5 ? 8 : which >= 2 ? MOST_EIGHTHS / 2 : MOST_EIGHTHS;
        int least = which == 1 ? 0 : -most;
        if (eighths < least || eighths > most) {
            throw new IllegalArgumentException("these two are not told of such eighths");
        }
    }

    private static void checkHouse(int what) {
        if (what < 0 || what > 5) {
            throw new IllegalArgumentException("house tells of 0 to 5");
        }
    }

    private void checkArgument(int cell) {
        if (!hasArgument(cell)) {
            throw new IllegalStateException("the number is no argument");
        }
    }

    private void checkToldWhole(int cell) {
        if (!isToldWhole(cell)) {
            throw new IllegalStateException("the number is not told whole");
        }
    }

    private void checkHasFloor(int cell) {
        if (Digits.heightIn(numbers[cell]) > MOST_HEIGHT_OF_FLOOR) {
            throw new IllegalStateException("the number is too high");
        }
    }

    /** What the 64 digits of a number tell. */
    private static final class Digits {
        static final long NOUGHT = 0L;
        static final long MINUS_NOUGHT = 1L << 63;
        static final int NO_EIGHTHS = -999;

        private static final int FRACTION_DIGITS = 52;
        private static final int EXPONENT_OF_ONE = 1023;
        private static final int MOST_EXPONENT = 2047;
        private static final long LEADING_ONE = 1L << FRACTION_DIGITS;
        private static final long FRACTION = LEADING_ONE - 1;
        private static final int HEIGHT_OF_AN_EIGHTH = -3;
        private static final int HEIGHT_OF_FORTY = 5;

        static long turned(long number) {
            return number ^ MINUS_NOUGHT;
        }

        /** The last 63 digits: they grow as the size does. */
        static long sizeIn(long number) {
            return number & ~MINUS_NOUGHT;
        }

        static int signIn(long number) {
            return number < 0 ? 1 : 0;
        }

        static boolean hasNoSize(long number) {
            return number == NOUGHT || number == MINUS_NOUGHT;
        }

        static int heightIn(long number) {
            return (int) (number >> FRACTION_DIGITS & MOST_EXPONENT) - EXPONENT_OF_ONE;
        }

        /** All 53 digits of a size that is not 0, the leading 1 with the fraction. */
        private static long allIn(long number) {
            return LEADING_ONE + (number & FRACTION);
        }

        static int firstIn(long number, int many) {
            return hasNoSize(number) ? 0 : (int) (allIn(number) >> (FRACTION_DIGITS + 1 - many));
        }

        static int compareValues(long one, long other) {
            long onesPlace = placeOf(one);
            long othersPlace = placeOf(other);
            return onesPlace < othersPlace ? -1 : onesPlace > othersPlace ? 1 : 0;
        }

        /** The size's digits with the sign: greater just if the value is, one and the same for both noughts. */
        private static long placeOf(long number) {
            return number < 0 ? -sizeIn(number) : number;
        }

        static long ofEighths(int eighths) {
            return ofDouble(eighths * 0.125);
        }

        /** How many eighths an argument is; NO_EIGHTHS of every other number. */
        static int eighthsIn(long number) {
            if (hasNoSize(number)) {
                return 0;
            }
            int height = heightIn(number);
            if (height < HEIGHT_OF_AN_EIGHTH || height > HEIGHT_OF_FORTY) {
                return NO_EIGHTHS;
            }
            int behind = FRACTION_DIGITS + HEIGHT_OF_AN_EIGHTH - height;
            long size = allIn(number) >> behind;
            if (size << behind != allIn(number) || size > MOST_EIGHTHS) {
                return NO_EIGHTHS;
            }
            return (int) (number < 0 ? -size : size);
        }

        /** The greatest whole number not above a value with a height of at most 23. */
        static int floorIn(long number) {
            if (hasNoSize(number)) {
                return 0;
            }
            int height = heightIn(number);
            if (height < 0) {
                return number < 0 ? -1 : 0;
            }
            int behind = FRACTION_DIGITS - height;
            long signed = number < 0 ? -allIn(number) : allIn(number);
            // This shift rounds down below 0, too.
            return (int) (signed >> behind);
        }

        static void write(StringBuilder line, long number) {
            if (number < 0) {
                line.append('-');
            }
            if (hasNoSize(number)) {
                line.append('0');
                return;
            }
            int digits = firstIn(number, MOST_DIGITS);
            for (int place = MOST_DIGITS - 1; place >= 0; place--) {
                line.append((digits >> place & 1) == 1 ? '1' : '0');
                if (place == MOST_DIGITS - 1) {
                    line.append('.');
                }
            }
            line.append('p');
            line.append(heightIn(number));
        }

        /** The digits of a double; of 0 those of NOUGHT. */
        static long ofDouble(double value) {
            double size = value < 0 ? -value : value;
            if (size == 0) {
                return NOUGHT;
            }
            int height = 0;
            while (size >= 2 && height < EXPONENT_OF_ONE) {
                size = size * 0.5;
                height++;
            }
            while (size < 1 && height > 1 - EXPONENT_OF_ONE) {
                size = size * 2;
                height--;
            }
            long exponent = height + EXPONENT_OF_ONE;
            long fraction = (long) ((size - 1) * (double) LEADING_ONE) & FRACTION;
            long number = (exponent << FRACTION_DIGITS) + fraction;
            return value < 0 ? turned(number) : number;
        }

        /** Whether two numbers have the same sign and are no more units apart than told. */
        static boolean areWithin(long one, long other, int units) {
            return signIn(one) == signIn(other) && Math.abs(sizeIn(one) - sizeIn(other)) <= units;
        }
    }

    /**
     * The three functions, made by their formulas from EXP and EXPM1, and the laws they keep.
     *
     * <p>EXP and EXPM1 are those of the C library fdlibm: the document leaves them free, but its
     * tables (which answers are nearest to the true value, which ones meet) are those that the
     * formulas make with these two, down to the last digit.
     */
    private static final class Curves {
        private static final int FORMULAS_END = 22;

        /** What a function makes of an argument: that is what its formula makes of it. */
        static long answer(int what, long argument) {
            double x = Digits.eighthsIn(argument) * 0.125;
            double a = x < 0 ? -x : x;
            boolean isMinus = argument < 0;
            switch (what) {
                case SINH:
                    // The half has the sign of x, so the product has; but a double of 0 does not show
                    // its sign, and the digits of a nought need it.
                    long product = Digits.ofDouble(sinhOf(a, isMinus ? -0.5 : 0.5));
                    return isMinus ? product | Digits.MINUS_NOUGHT : product;
                case COSH:
                    return Digits.ofDouble(coshOf(a));
                default:
                    long ofSize = Digits.ofDouble(tanhOf(a));
                    return isMinus ? Digits.turned(ofSize) : ofSize;
            }
        }

        private static double sinhOf(double a, double half) {
            if (a >= FORMULAS_END) {
                return half * exp(a);
            }
            double t = expm1(a);
            return a < 1 ? half * (2 * t - t * t / (t + 1)) : half * (t + t / (t + 1));
        }

        private static double coshOf(double a) {
            if (a <= 0.25) {
                double t = expm1(a);
                double w = 1 + t;
                return 1 + t * t / (w + w);
            }
            double t = exp(a);
            return a < FORMULAS_END ? 0.5 * t + 0.5 / t : 0.5 * t;
        }

        private static double tanhOf(double a) {
            if (a >= FORMULAS_END) {
                return 1;
            }
            if (a < 1) {
                double t = expm1(-2 * a);
                return -t / (t + 2);
            }
            double t = expm1(2 * a);
            return 1 - 2 / (t + 2);
        }

        /**
         * EXP of x, 0 or more: with x = power * ln 2 + r, so that r is near 0, 2^power times
         * e^r, and that by a quotient of polynomials in r.
         */
        private static double exp(double x) {
            int power = powerOfTwoNear(x);
            double high = x - power * 6.93147180369123816490e-01;
            double low = power * 1.90821492927058770002e-10;
            double r = high - low;
            double square = r * r;
            double c = r - square * (1.66666666666666019037e-01
                    + square * (-2.77777777770155933842e-03
                    + square * (6.61375632143793436117e-05
                    + square * (-1.65339022054652515390e-06
                    + square * 4.13813679705723846039e-08))));
            double y = 1 - ((low - (r * c) / (2 - c)) - high);
            return y * twoTo(power);
        }

        /**
         * EXPM1 of x: as EXP, but the 1 is taken away where that loses no digits, which depends
         * on the power of two.
         */
        private static double expm1(double x) {
            if (x == 0) {
                // x itself, so that its sign is not lost.
                return x;
            }
            int power = powerOfTwoNear(x);
            double high = x - power * 6.93147180369123816490e-01;
            double low = power * 1.90821492927058770002e-10;
            double r = high - low;
            double lost = (high - r) - low;
            double half = 0.5 * r;
            double square = r * half;
            double r1 = 1 + square * (-3.33333333333331316428e-02
                    + square * (1.58730158725481460165e-03
                    + square * (-7.93650757867487942473e-05
                    + square * (4.00821782732936239552e-06
                    + square * -2.01099218183624371326e-07))));
            double t = 3 - r1 * half;
            double e = square * ((r1 - t) / (6 - r * t));
            e = (r * (e - lost) - lost) - square;
            if (power == 0) {
                return r - e;
            }
            if (power == -1) {
                return 0.5 * (r - e) - 0.5;
            }
            if (power == 1) {
                return r < -0.25 ? -2 * (e - (r + 0.5)) : 1 + 2 * (r - e);
            }
            if (power < -1 || power > 56) {
                return (1 - (e - r)) * twoTo(power) - 1;
            }
            if (power < 20) {
                return ((1 - twoTo(-power)) - (e - r)) * twoTo(power);
            }
            return (r - (e + twoTo(-power)) + 1) * twoTo(power);
        }

        /** Which power of two is near e^x: none up to a size of (ln 2) / 2, one up to (3 ln 2) / 2. */
        private static int powerOfTwoNear(double x) {
            double size = x < 0 ? -x : x;
            int power = 0;
            if (size > 1.0397207708399179) {
                power = (int) (1.44269504088896338700e+00 * size + 0.5);
            } else if (size > 0.34657359027997264) {
                power = 1;
            }
            return x < 0 ? -power : power;
        }

        private static double twoTo(int power) {
            double result = 1;
            double factor = power < 0 ? 0.5 : 2;
            for (int rest = power < 0 ? -power : power; rest > 0; rest = rest >> 1) {
                if ((rest & 1) == 1) {
                    result = result * factor;
                }
                factor = factor * factor;
            }
            return result;
        }

        static boolean keepsTurning(int what, long argument) {
            long answer = answer(what, argument);
            long due = what == COSH ? answer : Digits.turned(answer);
            return answer(what, Digits.turned(argument)) == due;
        }

        static boolean keepsBounds(long argument) {
            long one = Digits.ofEighths(EIGHTHS_OF_ONE);
            long sizeOfTanh = Digits.sizeIn(answer(TANH, argument));
            long sizeOfArgument = Digits.sizeIn(argument);
            long sizeOfSinh = Digits.sizeIn(answer(SINH, argument));
            long cosh = answer(COSH, argument);
            return sizeOfTanh <= one && cosh >= one && sizeOfTanh <= sizeOfArgument
                    && sizeOfArgument <= sizeOfSinh && sizeOfSinh <= cosh;
        }

        static boolean keepsNear(int which, int eighths) {
            double x = eighths * 0.125;
            double s = valueOf(SINH, x);
            double c = valueOf(COSH, x);
            double t = valueOf(TANH, x);
            switch (which) {
                case 0:
                    return areWithin(s / c, t, 2);
                case 1:
                    return areWithin(s + c, exp(x), 1);
                case 2:
                    return areWithin(2 * s * c, valueOf(SINH, 2 * x), 2);
                case 3:
                    return areWithin(2 * s * s + 1, valueOf(COSH, 2 * x), 3);
                case 4:
                    return areWithin(2 * t / (1 + t * t), valueOf(TANH, 2 * x), 1);
                default:
                    return haveSquaresNearOneApart(c, s);
            }
        }

        private static double valueOf(int what, double x) {
            double a = x < 0 ? -x : x;
            double ofSize = what == SINH ? sinhOf(a, 0.5) : what == COSH ? coshOf(a) : tanhOf(a);
            return x < 0 && what != COSH ? -ofSize : ofSize;
        }

        private static boolean areWithin(double one, double other, int units) {
            return Digits.areWithin(Digits.ofDouble(one), Digits.ofDouble(other), units);
        }

        /**
         * Whether c * c - s * s is at most 3 * 2^-52 from 1, exactly; both sizes are below 2, and
         * whole numbers of 2^-55. So in halves of 28 digits, as no product of them fills a long.
         */
        private static boolean haveSquaresNearOneApart(double c, double s) {
            long cosh = (long) (c * (double) (1L << 55));
            long sinh = (long) ((s < 0 ? -s : s) * (double) (1L << 55));
            long half = (1L << 28) - 1;
            long coshHigh = cosh >> 28;
            long coshLow = cosh & half;
            long sinhHigh = sinh >> 28;
            long sinhLow = sinh & half;
            // The difference from 1 is high * 2^56 + middle * 2^28 + low, of 2^-110 each.
            long high = coshHigh * coshHigh - sinhHigh * sinhHigh - (1L << 54);
            long middle = 2 * (coshHigh * coshLow - sinhHigh * sinhLow);
            long low = coshLow * coshLow - sinhLow * sinhLow;
            middle += low >> 28;
            high += middle >> 28;
            boolean hasNoRest = (low & half) == 0 && (middle & half) == 0;
            // 3 * 2^-52 is 12 * 2^56 of 2^-110.
            return high >= -12 && (high < 12 || high == 12 && hasNoRest);
        }
    }
}
