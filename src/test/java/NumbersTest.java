import java.util.ArrayList;
import java.util.List;

/**
 * Every number that can come to a cell: all 642 arguments, all that the functions make of them,
 * and that turned. Each is asked all there is to ask; then all are laid in the order of their
 * values, in which each two neighbours are asked about.
 */
public final class NumbersTest {
    private static final Report report = new Report("NumbersTest");

    /** How a number is made: by which function (0 by none), of what, and whether it is turned then. */
    private record Recipe(int what, int eighths, boolean minusNought, boolean turned) {
        void follow(Chaincurves cells, int cell) {
            if (minusNought) {
                cells.putMinusNought(cell);
            } else {
                cells.put(cell, eighths);
            }
            switch (what) {
                case 1 -> cells.sinh(cell, cell);
                case 2 -> cells.cosh(cell, cell);
                case 3 -> cells.tanh(cell, cell);
                default -> { }
            }
            if (turned) {
                cells.turn(cell);
            }
        }

        void follow(Model cells, int cell) {
            if (minusNought) {
                cells.putMinusNought(cell);
            } else {
                cells.put(cell, eighths);
            }
            switch (what) {
                case 1 -> cells.sinh(cell, cell);
                case 2 -> cells.cosh(cell, cell);
                case 3 -> cells.tanh(cell, cell);
                default -> { }
            }
            if (turned) {
                cells.turn(cell);
            }
        }
    }

    public static void main(String[] args) {
        List<Recipe> all = new ArrayList<>();
        for (int what = 0; what <= 3; what++) {
            for (boolean turned : new boolean[] {false, true}) {
                all.add(new Recipe(what, 0, true, turned));
                for (int k = -320; k <= 320; k++) {
                    all.add(new Recipe(what, k, false, turned));
                }
            }
        }
        for (Recipe recipe : all) {
            askAll(recipe);
        }
        askNeighbours(all);
        report.close();
    }

    private static void askAll(Recipe recipe) {
        Chaincurves got = new Chaincurves();
        Model want = new Model();
        recipe.follow(got, 5);
        recipe.follow(want, 5);
        String of = " of " + recipe;
        report.due("sign" + of, got.sign(5), want.sign(5));
        report.due("isNought" + of, got.isNought(5), want.isNought(5));
        report.due("isArgument" + of, got.isArgument(5), want.isArgument(5));
        report.due("eighths" + of, got.eighths(5), want.eighths(5));
        report.due("origin" + of, got.origin(5), recipe.what());
        report.due("source" + of, got.source(5), recipe.eighths());
        report.due("isWhole" + of, got.isWhole(5), want.isWhole(5));
        report.due("height" + of, got.height(5), want.height(5));
        report.due("text" + of, got.text(5), want.text(5));
        for (int many = 1; many <= 24; many++) {
            report.due("first " + many + of, got.first(5, many), want.first(5, many));
            report.due("digit " + (many - 1) + of, got.digit(5, many - 1), want.digit(5, many - 1));
        }
        if (want.isWhole(5)) {
            report.due("upper" + of, got.upper(5), want.upper(5));
            report.due("lower" + of, got.lower(5), want.lower(5));
        } else {
            report.dueThrow("upper" + of, IllegalStateException.class, () -> got.upper(5));
            report.dueThrow("lower" + of, IllegalStateException.class, () -> got.lower(5));
        }
        if (want.height(5) <= 23) {
            report.due("floor" + of, got.floor(5), want.floor(5));
        } else {
            report.dueThrow("floor" + of, IllegalStateException.class, () -> got.floor(5));
        }
        report.due("digest" + of, got.digest(), want.digest());
        report.due("bring" + of, got.bring(5), want.bring(5));
        report.due("eighths behind bring" + of, got.eighths(5), recipe.eighths());
        report.due("sign behind bring" + of, got.sign(5), recipe.eighths() < 0 || recipe.minusNought() ? 1 : 0);
    }

    private static void askNeighbours(List<Recipe> all) {
        List<Recipe> sorted = new ArrayList<>(all);
        sorted.sort((p, q) -> {
            Model m = new Model();
            p.follow(m, 0);
            q.follow(m, 1);
            return m.order(0, 1);
        });
        for (int i = 0; i + 1 < sorted.size(); i++) {
            Chaincurves got = new Chaincurves();
            Model want = new Model();
            sorted.get(i).follow(got, 0);
            sorted.get(i).follow(want, 0);
            sorted.get(i + 1).follow(got, 1);
            sorted.get(i + 1).follow(want, 1);
            String of = " of " + sorted.get(i) + " and " + sorted.get(i + 1);
            report.due("order" + of, got.order(0, 1), want.order(0, 1));
            report.due("order back" + of, got.order(1, 0), want.order(1, 0));
            report.due("isSame" + of, got.isSame(0, 1), want.isSame(0, 1));
            report.due("isBelow" + of, got.isBelow(0, 1, false), want.isBelow(0, 1, false));
            report.due("isBelow or same" + of, got.isBelow(1, 0, true), want.isBelow(1, 0, true));
        }
    }
}
