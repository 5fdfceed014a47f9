import java.lang.reflect.Field;
import java.lang.reflect.Method;
import java.math.BigDecimal;

/**
 * Boundary cases that the face does not show, as the questions about them are "always so": that the
 * formulas change just where the document says (each digit of each answer is what its formula makes,
 * with the class's own EXP and EXPM1), how many UNITS apart are still near, and that isSound() sees
 * a cell that is not. So this test looks inside, by names that stand in the class; where one of them
 * is not there it looks at nothing, and says so: the document leaves free how the class is made.
 */
public final class InsideTest {
    private static final int SINH = 1;
    private static final int COSH = 2;
    private static final int TANH = 3;

    private static final Report report = new Report("InsideTest");
    private static final long DIGITS_OF_ONE = 1023L << 52;
    private static final long MINUS_NOUGHT = Long.MIN_VALUE;
    private static Method answer;
    private static Method exp;
    private static Method expm1;
    private static Method areWithin;
    private static Method areSquaresNear;

    public static void main(String[] args) throws Exception {
        if (!findInside()) {
            System.out.println("InsideTest: the class is not made as this test knows it, nothing is looked at");
            return;
        }
        report.sentence("3 SINH: a below 1");
        look(SINH, 0, 7);
        report.sentence("3 SINH: a of 1 and more, but below 22");
        look(SINH, 8, 175);
        report.sentence("3 SINH: otherwise");
        look(SINH, 176, 320);
        report.sentence("3 COSH: a of at most 2 eighths");
        look(COSH, 0, 2);
        report.sentence("3 COSH: a more, but below 22");
        look(COSH, 3, 175);
        report.sentence("3 COSH: otherwise");
        look(COSH, 176, 320);
        report.sentence("3 TANH: a below 1");
        look(TANH, 0, 7);
        report.sentence("3 TANH: a of 1 and more, but below 22");
        look(TANH, 8, 175);
        report.sentence("3 TANH: otherwise 1");
        look(TANH, 176, 320);
        unitsApart();
        squaresApart();
        soundness();
        report.close();
    }

    private static boolean findInside() throws Exception {
        Class<?> curves = null;
        Class<?> digits = null;
        for (Class<?> inside : Chaincurves.class.getDeclaredClasses()) {
            curves = inside.getSimpleName().equals("Curves") ? inside : curves;
            digits = inside.getSimpleName().equals("Digits") ? inside : digits;
        }
        if (curves == null || digits == null) {
            return false;
        }
        try {
            answer = open(curves.getDeclaredMethod("answer", int.class, long.class));
            exp = open(curves.getDeclaredMethod("exp", double.class));
            expm1 = open(curves.getDeclaredMethod("expm1", double.class));
            areSquaresNear = open(curves.getDeclaredMethod("haveSquaresNearOneApart", double.class, double.class));
            areWithin = open(digits.getDeclaredMethod("areWithin", long.class, long.class, int.class));
            Chaincurves x = new Chaincurves();
            return row(x, "numbers") instanceof long[] && row(x, "origins") instanceof int[]
                    && row(x, "sources") instanceof long[];
        } catch (NoSuchMethodException | NoSuchFieldException e) {
            return false;
        }
    }

    private static Method open(Method method) {
        method.setAccessible(true);
        return method;
    }

    private static double exp(double x) throws Exception {
        return (double) exp.invoke(null, x);
    }

    private static double expm1(double x) throws Exception {
        return (double) expm1.invoke(null, x);
    }

    private static void look(int what, int from, int to) throws Exception {
        for (int k = from; k <= to; k++) {
            for (double x : new double[] {k / 8.0, -k / 8.0}) {
                long got = (long) answer.invoke(null, what, Double.doubleToRawLongBits(x));
                report.due(what + " of " + x, got, Double.doubleToRawLongBits(formula(what, k, x)));
            }
        }
    }

    /** The document's formulas; k is the size in eighths, so that each change is as it is written there. */
    private static double formula(int what, int k, double x) throws Exception {
        double a = Math.abs(x);
        boolean isMinus = Double.doubleToRawLongBits(x) < 0;
        switch (what) {
            case SINH:
                return sinh(k, a, isMinus ? -0.5 : 0.5);
            case COSH:
                return cosh(k, a);
            default:
                double t = tanh(k, a);
                return isMinus ? -t : t;
        }
    }

    private static double sinh(int k, double a, double h) throws Exception {
        double t = expm1(a);
        if (k < 8) {
            return h * (2 * t - t * t / (t + 1));
        }
        return k < 176 ? h * (t + t / (t + 1)) : h * exp(a);
    }

    private static double cosh(int k, double a) throws Exception {
        if (k <= 2) {
            double t = expm1(a);
            double w = 1 + t;
            return 1 + t * t / (w + w);
        }
        double t = exp(a);
        return k < 176 ? 0.5 * t + 0.5 / t : 0.5 * t;
    }

    private static double tanh(int k, double a) throws Exception {
        if (k < 8) {
            double t = expm1(-2 * a);
            return -t / (t + 2);
        }
        double t = expm1(2 * a);
        return k < 176 ? 1 - 2 / (t + 2) : 1;
    }

    private static void within(long one, long other, int units, boolean want) throws Exception {
        String call = Long.toHexString(one) + " and " + Long.toHexString(other) + " within " + units;
        report.due(call, areWithin.invoke(null, one, other, units), want);
        report.due(call + ", back", areWithin.invoke(null, other, one, units), want);
        report.due(call + ", TURNED", areWithin.invoke(null, one ^ MINUS_NOUGHT, other ^ MINUS_NOUGHT, units), want);
    }

    private static void unitsApart() throws Exception {
        report.sentence("1 UNITS: by how much the last 63 digits differ, 0 if they are the SAME");
        within(DIGITS_OF_ONE, DIGITS_OF_ONE, 0, true);
        within(DIGITS_OF_ONE, DIGITS_OF_ONE + 1, 0, false);
        within(0, 0, 0, true);
        report.sentence("43 isNear: no more UNITS apart than told, just as many are near");
        for (int units = 1; units <= 3; units++) {
            within(DIGITS_OF_ONE, DIGITS_OF_ONE + units, units, true);
            within(DIGITS_OF_ONE, DIGITS_OF_ONE + units + 1, units, false);
            within(DIGITS_OF_ONE - units, DIGITS_OF_ONE, units, true);
            within(DIGITS_OF_ONE - units - 1, DIGITS_OF_ONE, units, false);
        }
        report.sentence("1 UNITS are told between two of one SIGN");
        within(DIGITS_OF_ONE, DIGITS_OF_ONE ^ MINUS_NOUGHT, 3, false);
        within(0, MINUS_NOUGHT, 3, false);
    }

    private static void squares(double cosh, double sinh, boolean want) throws Exception {
        String call = "squares of " + cosh + " and " + sinh + " near";
        report.due(call, areSquaresNear.invoke(null, cosh, sinh), want);
        report.due(call + ", SINH TURNED", areSquaresNear.invoke(null, cosh, -sinh), want);
    }

    private static void squaresApart() throws Exception {
        double fine = Math.ulp(1.0);
        report.sentence("43 isNear 5: COSH * COSH less SINH * SINH and 1 are the same");
        squares(1.25, 0.75, true);
        squares(1, 0, true);
        // (c - s) * (c + s) is 1/2 * (2 + 6 * 2^-52) here: just 3 * 2^-52 above 1; then below it.
        report.sentence("43 isNear 5: just 3 * 2^-52 apart, above 1");
        squares(1.25 + 3 * fine, 0.75 + 3 * fine, true);
        squares(1.25 + 3 * fine, 0.75 + 2.5 * fine, false);
        squares(1.25 + 4 * fine, 0.75 + 3 * fine, false);
        report.sentence("43 isNear 5: just 3 * 2^-52 apart, below 1");
        squares(1.25 - 3 * fine, 0.75 - 3 * fine, true);
        squares(1.25 - 3 * fine, 0.75 - 2.5 * fine, false);
        squares(1.25 - 4 * fine, 0.75 - 3 * fine, false);
        report.sentence("43 isNear 5: all of this exactly and not rounded");
        for (int k = 1; k <= 8; k++) {
            double cosh = Math.cosh(k / 8.0);
            for (int bound = -3; bound <= 3; bound += 6) {
                double sinh = Math.sqrt(cosh * cosh - 1 - bound * fine);
                for (int step = -200; step <= 200; step++) {
                    double near = sinh + step * Math.ulp(sinh);
                    squares(cosh, near, areExactlyNear(cosh, near));
                }
            }
        }
    }

    private static boolean areExactlyNear(double cosh, double sinh) {
        BigDecimal c = new BigDecimal(cosh);
        BigDecimal s = new BigDecimal(sinh);
        BigDecimal apart = c.multiply(c).subtract(s.multiply(s)).subtract(BigDecimal.ONE);
        return apart.abs().compareTo(new BigDecimal(3 * Math.ulp(1.0))) <= 0;
    }

    /** A row of an object, by the name of its field. */
    private static Object row(Chaincurves x, String name) throws Exception {
        Field field = Chaincurves.class.getDeclaredField(name);
        field.setAccessible(true);
        return field.get(x);
    }

    private static void isUnsound(String what, Chaincurves x) {
        report.due("isSound with " + what, x.isSound(), false);
    }

    private static void soundness() throws Exception {
        report.sentence("46 isSound: not with a NUMBER that its SOURCE does not make, in the first or the last cell");
        for (int cell : new int[] {0, 7}) {
            Chaincurves x = Cells.mixed();
            ((long[]) row(x, "numbers"))[cell]++;
            isUnsound("one unit more in cell " + cell, x);
            ((long[]) row(x, "numbers"))[cell] -= 2;
            isUnsound("one unit less in cell " + cell, x);
        }
        report.sentence("46 isSound: not with another ORIGIN or SOURCE");
        Chaincurves x = Cells.mixed();
        ((int[]) row(x, "origins"))[5] = SINH;
        isUnsound("another origin", x);
        x = Cells.mixed();
        ((int[]) row(x, "origins"))[5] = 0;
        isUnsound("the origin of what is put", x);
        x = Cells.mixed();
        ((long[]) row(x, "sources"))[5]++;
        isUnsound("no argument as the source", x);
        report.sentence("46 isSound: or that TURNED");
        x = Cells.mixed();
        for (int cell = 0; cell < 8; cell++) {
            ((long[]) row(x, "numbers"))[cell] ^= MINUS_NOUGHT;
        }
        report.due("isSound with all TURNED", x.isSound(), true);
        report.sentence("47 digest: 1 if isSound(), otherwise 0");
        due("digest", x);
        ((long[]) row(x, "numbers"))[0]++;
        isUnsound("one unit more", x);
        due("digest with that", x);
    }

    private static void due(String call, Chaincurves x) {
        report.due(call, x.digest(), Cells.unwrappedDigest(x).longValue());
    }
}
