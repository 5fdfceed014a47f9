import java.lang.reflect.InvocationTargetException;
import java.lang.reflect.Method;
import java.util.ArrayList;
import java.util.List;

/** Runs of 512 calls, mixed by a fixed rule, on the class and on the model: each answer is to be the same. */
public final class RunsTest {
    /** A method, how often it is chosen, and what each argument is (c cell, e eighths, and so on below). */
    private static final String[] CALLS = {
        "put ce 12", "putMinusNought c 4", "sinh cc 8", "cosh cc 8", "tanh cc 8", "make wec 14", "turn c 8",
        "bring c 8", "copy cc 5", "swap cc 5", "lesser ccc 5", "greater ccc 5", "empty - 1",
        "sign c 2", "isNought c 2", "isArgument c 2", "eighths c 2", "origin c 2", "source c 2", "isWhole c 2",
        "upper c 3", "lower c 3", "height c 2", "first cm 3", "digit cp 3", "floor c 4", "text c 2",
        "isSame cc 4", "order cc 6", "isBelow ccb 4", "end b 3", "alike c 3",
        "signOf we 2", "heightOf we 2", "firstOf wem 2", "isTurned wc 3", "isFormula wc 3", "isRising we 2",
        "isOne e 2", "isMeeting e 2", "isBounded e 2", "isNear ne 4", "house h 4", "knock - 2",
        "isSound - 1", "digest - 1"};
    private static final int[] ODD = {-1, 8, 9, -8, 24, 25, 321, -321, Integer.MAX_VALUE, Integer.MIN_VALUE};
    private static final int[] EDGES = {0, 1, 2, 3, 6, 7, 8, 9, 137, 138, 139, 145, 148, 149, 150, 151, 152, 153,
        160, 161, 175, 176, 177, 319, 320};
    private static final int RUNS = 1200;
    private static final int CALLS_OF_A_RUN = 511;

    private static long state = 20261119L;

    public static void main(String[] args) throws Exception {
        Report report = new Report("RunsTest");
        List<String> chances = new ArrayList<>();
        for (String call : CALLS) {
            String[] parts = call.split(" ");
            for (int i = 0; i < Integer.parseInt(parts[2]); i++) {
                chances.add(parts[0] + " " + parts[1]);
            }
        }
        for (int run = 0; run < RUNS && report.wrong() == 0; run++) {
            goOneRun(report, run, chances);
        }
        report.close();
    }

    private static void goOneRun(Report report, int run, List<String> chances) throws Exception {
        Chaincurves got = new Chaincurves();
        Model want = new Model();
        StringBuilder told = new StringBuilder("run " + run + ":");
        for (int i = 0; i < CALLS_OF_A_RUN; i++) {
            String[] parts = chances.get(below(chances.size())).split(" ");
            String kinds = parts[1].equals("-") ? "" : parts[1];
            Class<?>[] types = new Class<?>[kinds.length()];
            Object[] values = new Object[kinds.length()];
            for (int j = 0; j < kinds.length(); j++) {
                types[j] = kinds.charAt(j) == 'b' ? boolean.class : int.class;
                values[j] = argument(kinds.charAt(j));
            }
            told.append(' ').append(parts[0]).append(java.util.Arrays.toString(values));
            report.due(told.toString(), ask(got, parts[0], types, values), ask(want, parts[0], types, values));
            if (report.wrong() > 0) {
                return;
            }
        }
        report.due(told + " digest", got.digest(), want.digest());
    }

    /** The answer, or the class of the exception that the call throws. */
    private static Object ask(Object whom, String name, Class<?>[] types, Object[] values) throws Exception {
        Method method = whom.getClass().getMethod(name, types);
        try {
            return method.invoke(whom, values);
        } catch (InvocationTargetException e) {
            return e.getCause().getClass();
        }
    }

    private static Object argument(char kind) {
        if (kind == 'b') {
            return below(2) == 1;
        }
        if (below(40) == 0) {
            return ODD[below(ODD.length)];
        }
        switch (kind) {
            case 'c':
                return below(8);
            case 'e':
                return eighths();
            case 'w':
                return below(60) == 0 ? 0 : below(60) == 0 ? 4 : 1 + below(3);
            case 'm':
                return below(26);
            case 'p':
                return below(26) - 1;
            case 'n':
                return below(30) == 0 ? 6 : below(6);
            case 'h':
                return below(30) == 0 ? 6 : below(6);
            default:
                throw new IllegalStateException("no such kind of argument");
        }
    }

    private static int eighths() {
        int size = below(3) == 0 ? EDGES[below(EDGES.length)] : below(2) == 0 ? below(20) : below(321);
        return below(2) == 0 ? -size : size;
    }

    private static int below(int limit) {
        state = state * 6364136223846793005L + 1442695040888963407L;
        return (int) ((state >>> 33) % limit);
    }
}
