/** What is asked of the functions, at every argument there is and behind both ends. */
public final class FunctionsTest {
    private static final Class<IllegalArgumentException> REFUSED = IllegalArgumentException.class;

    private static final Report report = new Report("FunctionsTest");
    private static final Model model = new Model();
    /** An object is used for at most 512 calls, so another one is asked at each argument. */
    private static Chaincurves asked = new Chaincurves();

    public static void main(String[] args) {
        for (int eighths = -320; eighths <= 320; eighths++) {
            asked = new Chaincurves();
            for (int what = 1; what <= 3; what++) {
                lookAtAnswer(what, eighths);
            }
            lookAtLaws(eighths);
        }
        refuseWrongOnes();
        report.close();
    }

    private static void lookAtAnswer(int what, int k) {
        String at = "(" + what + ", " + k;
        report.due("signOf" + at + ")", asked.signOf(what, k), model.signOf(what, k));
        report.due("heightOf" + at + ")", asked.heightOf(what, k), model.heightOf(what, k));
        for (int many = 1; many <= 24; many++) {
            String call = "firstOf" + at + ", " + many + ")";
            report.due(call, asked.firstOf(what, k, many), model.firstOf(what, k, many));
        }
        if (k < 320) {
            report.due("isRising" + at + ")", asked.isRising(what, k), model.isRising(what, k));
        }
        Chaincurves cells = new Chaincurves();
        cells.put(3, k);
        report.due("isTurned of " + k, cells.isTurned(what, 3), true);
        report.due("isFormula of " + k, cells.isFormula(what, 3), true);
    }

    private static void lookAtLaws(int k) {
        report.due("isOne(" + k + ")", asked.isOne(k), k >= 153);
        report.due("isMeeting(" + k + ")", asked.isMeeting(k), k >= 150);
        report.due("isBounded(" + k + ")", asked.isBounded(k), true);
        int[] least = {-320, 0, -160, -160, -160, -8};
        int[] most = {320, 320, 160, 160, 160, 8};
        for (int which = 0; which <= 5; which++) {
            int pair = which;
            String call = "isNear(" + which + ", " + k + ")";
            if (k >= least[which] && k <= most[which]) {
                report.due(call, asked.isNear(which, k), true);
            } else {
                report.dueThrow(call, REFUSED, () -> asked.isNear(pair, k));
            }
        }
    }

    private static void refuseWrongOnes() {
        asked = new Chaincurves();
        for (int wrong : new int[] {-321, 321, Integer.MIN_VALUE, Integer.MAX_VALUE}) {
            for (int what = 1; what <= 3; what++) {
                int function = what;
                String at = "(" + what + ", " + wrong + ")";
                report.dueThrow("signOf" + at, REFUSED, () -> asked.signOf(function, wrong));
                report.dueThrow("heightOf" + at, REFUSED, () -> asked.heightOf(function, wrong));
                report.dueThrow("firstOf" + at, REFUSED, () -> asked.firstOf(function, wrong, 1));
                report.dueThrow("isRising" + at, REFUSED, () -> asked.isRising(function, wrong));
                report.dueThrow("isRising(.., 320)", REFUSED, () -> asked.isRising(function, 320));
            }
            report.dueThrow("isOne " + wrong, REFUSED, () -> asked.isOne(wrong));
            report.dueThrow("isMeeting " + wrong, REFUSED, () -> asked.isMeeting(wrong));
            report.dueThrow("isBounded " + wrong, REFUSED, () -> asked.isBounded(wrong));
        }
        for (int wrong : new int[] {0, 4, -1, Integer.MIN_VALUE, Integer.MAX_VALUE}) {
            report.dueThrow("signOf " + wrong, REFUSED, () -> asked.signOf(wrong, 5));
            report.dueThrow("heightOf " + wrong, REFUSED, () -> asked.heightOf(wrong, 5));
            report.dueThrow("firstOf " + wrong, REFUSED, () -> asked.firstOf(wrong, 5, 1));
            report.dueThrow("isRising " + wrong, REFUSED, () -> asked.isRising(wrong, 5));
            report.dueThrow("isTurned " + wrong, REFUSED, () -> asked.isTurned(wrong, 0));
            report.dueThrow("isFormula " + wrong, REFUSED, () -> asked.isFormula(wrong, 0));
        }
        for (int wrong : new int[] {0, 25, -1, Integer.MIN_VALUE, Integer.MAX_VALUE}) {
            report.dueThrow("firstOf many " + wrong, REFUSED, () -> asked.firstOf(1, 5, wrong));
        }
        for (int wrong : new int[] {-1, 6, Integer.MIN_VALUE, Integer.MAX_VALUE}) {
            report.dueThrow("isNear " + wrong, REFUSED, () -> asked.isNear(wrong, 0));
        }
    }
}
