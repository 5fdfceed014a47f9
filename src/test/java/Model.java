import java.math.BigDecimal;

/**
 * What the document tells of eight cells, written anew from its words alone: a number is either
 * told whole, then its digits are known, or it is one of the answers with a true value. It is
 * held against the class, so it shares nothing with it.
 */
public final class Model {
    /** A number of which the document tells enough to answer each question. */
    private static final class Told {
        boolean whole;
        long digits;
        int what;
        int k;
        boolean minus;

        Told turned() {
            Told t = new Told();
            t.whole = whole;
            t.digits = digits ^ Long.MIN_VALUE;
            t.what = what;
            t.k = k;
            t.minus = !minus;
            return t;
        }

        BigDecimal value() {
            if (whole) {
                return new BigDecimal(Double.longBitsToDouble(digits));
            }
            BigDecimal size = Truth.of(what, k);
            return minus ? size.negate() : size;
        }

        boolean isNought() {
            return whole && Double.longBitsToDouble(digits) == 0.0;
        }

        int sign() {
            return whole ? (int) (digits >>> 63) : minus ? 1 : 0;
        }

        int height() {
            return isNought() ? -1023 : Truth.height(value().abs());
        }

        int first(int n) {
            return isNought() ? 0 : Truth.first(value().abs(), n).intValueExact();
        }

        int eighths() {
            if (!whole) {
                return -999;
            }
            double times8 = Double.longBitsToDouble(digits) * 8;
            return times8 == Math.rint(times8) && Math.abs(times8) <= 320 ? (int) times8 : -999;
        }
    }

    /** A number with the function that made it and the argument that it was made of. */
    private static final class Cell {
        final Told number;
        final int origin;
        final Told source;

        Cell(Told number, int origin, Told source) {
            this.number = number;
            this.origin = origin;
            this.source = source;
        }
    }

    private final Cell[] cells = new Cell[8];
    private final int[] counts = new int[4];

    public Model() {
        for (int i = 0; i < 8; i++) {
            cells[i] = asPut(argument(0));
        }
    }

    private static Told withDigits(long digits) {
        Told t = new Told();
        t.whole = true;
        t.digits = digits;
        return t;
    }

    private static Told argument(int eighths) {
        return withDigits(Double.doubleToRawLongBits(eighths / 8.0));
    }

    private static Told minusNought() {
        return withDigits(Double.doubleToRawLongBits(-0.0));
    }

    private static Cell asPut(Told argument) {
        return new Cell(argument, 0, argument);
    }

    private static Told answer(int what, Told argument) {
        int k = Math.abs(argument.eighths());
        if (k == 0) {
            return what == Truth.COSH ? argument(8) : argument;
        }
        Told t;
        if (what == Truth.TANH && k != 1 && k != 7) {
            t = withDigits(Truth.nearest(Truth.of(what, k)));
        } else {
            t = new Told();
            t.what = what;
            t.k = k;
        }
        return what != Truth.COSH && argument.sign() == 1 ? t.turned() : t;
    }

    private static boolean same(Told p, Told q) {
        if (p.whole || q.whole) {
            return p.whole && q.whole && p.digits == q.digits;
        }
        boolean sameFunction = p.what == q.what || p.what != Truth.TANH && q.what != Truth.TANH && p.k >= 150;
        return sameFunction && p.k == q.k && p.minus == q.minus;
    }

    private static int compare(Told p, Told q) {
        return same(p, q) ? 0 : p.value().compareTo(q.value());
    }

    private static void cell(int... indexes) {
        for (int i : indexes) {
            if (i < 0 || i > 7) {
                throw new IndexOutOfBoundsException();
            }
        }
    }

    private static void argue(boolean isRight) {
        if (!isRight) {
            throw new IllegalArgumentException();
        }
    }

    private static void stand(boolean isRight) {
        if (!isRight) {
            throw new IllegalStateException();
        }
    }

    private static boolean inRange(int eighths) {
        return eighths >= -320 && eighths <= 320;
    }

    private int set(int into, Cell c) {
        int changed = same(cells[into].number, c.number) ? 0 : 1;
        cells[into] = c;
        return changed;
    }

    private int arrive(int into, Cell c) {
        counts[0]++;
        return set(into, c);
    }

    public int put(int cell, int eighths) {
        cell(cell);
        argue(inRange(eighths));
        return arrive(cell, asPut(argument(eighths)));
    }

    public int putMinusNought(int cell) {
        cell(cell);
        return arrive(cell, asPut(minusNought()));
    }

    private int apply(int what, int cell, int into) {
        cell(cell, into);
        stand(isArgument(cell));
        Told x = cells[cell].number;
        return arrive(into, new Cell(answer(what, x), what, x));
    }

    public int sinh(int cell, int into) {
        return apply(1, cell, into);
    }

    public int cosh(int cell, int into) {
        return apply(2, cell, into);
    }

    public int tanh(int cell, int into) {
        return apply(3, cell, into);
    }

    public int make(int what, int eighths, int into) {
        argue(what >= 1 && what <= 3 && inRange(eighths));
        cell(into);
        Told x = argument(eighths);
        return arrive(into, new Cell(answer(what, x), what, x));
    }

    public int turn(int cell) {
        cell(cell);
        counts[1]++;
        Cell c = cells[cell];
        cells[cell] = new Cell(c.number.turned(), c.origin, c.source);
        return cells[cell].number.sign();
    }

    public int bring(int cell) {
        cell(cell);
        return arrive(cell, asPut(cells[cell].source));
    }

    public int copy(int cell, int into) {
        cell(cell, into);
        return arrive(into, cells[cell]);
    }

    public int swap(int cell, int other) {
        cell(cell, other);
        counts[2]++;
        Cell c = cells[cell];
        int changed = set(cell, cells[other]);
        set(other, c);
        return changed;
    }

    public int lesser(int one, int other, int into) {
        cell(one, other, into);
        return arrive(into, cells[order(one, other) <= 0 ? one : other]);
    }

    public int greater(int one, int other, int into) {
        cell(one, other, into);
        return arrive(into, cells[order(one, other) >= 0 ? one : other]);
    }

    public int empty() {
        int changed = 0;
        for (int i = 0; i < 8; i++) {
            changed += set(i, asPut(argument(0)));
        }
        return changed;
    }

    public int sign(int cell) {
        cell(cell);
        return cells[cell].number.sign();
    }

    public boolean isNought(int cell) {
        cell(cell);
        return cells[cell].number.isNought();
    }

    public boolean isArgument(int cell) {
        return eighths(cell) != -999;
    }

    public int eighths(int cell) {
        cell(cell);
        return cells[cell].number.eighths();
    }

    public int origin(int cell) {
        cell(cell);
        return cells[cell].origin;
    }

    public int source(int cell) {
        cell(cell);
        return cells[cell].source.eighths();
    }

    public boolean isWhole(int cell) {
        cell(cell);
        return cells[cell].number.whole;
    }

    public int upper(int cell) {
        stand(isWhole(cell));
        return (int) (cells[cell].number.digits >> 32);
    }

    public int lower(int cell) {
        stand(isWhole(cell));
        return (int) cells[cell].number.digits;
    }

    public int height(int cell) {
        cell(cell);
        return cells[cell].number.height();
    }

    public int first(int cell, int many) {
        cell(cell);
        argue(many >= 1 && many <= 24);
        return cells[cell].number.first(many);
    }

    public int digit(int cell, int place) {
        cell(cell);
        argue(place >= 0 && place <= 23);
        return cells[cell].number.first(place + 1) % 2;
    }

    public int floor(int cell) {
        cell(cell);
        Told t = cells[cell].number;
        stand(t.height() <= 23);
        if (t.whole) {
            return (int) Math.floor(Double.longBitsToDouble(t.digits));
        }
        // The first 24 digits hold all before the point, and there is something behind it.
        int before = t.height() < 0 ? 0 : t.first(t.height() + 1);
        return t.minus ? -before - 1 : before;
    }

    public String text(int cell) {
        cell(cell);
        Told t = cells[cell].number;
        String sign = t.sign() == 1 ? "-" : "";
        if (t.isNought()) {
            return sign + "0";
        }
        String digits = Integer.toBinaryString(t.first(24));
        return sign + digits.charAt(0) + "." + digits.substring(1) + "p" + t.height();
    }

    public boolean isSame(int one, int other) {
        cell(one, other);
        return same(cells[one].number, cells[other].number);
    }

    public int order(int one, int other) {
        cell(one, other);
        return compare(cells[one].number, cells[other].number);
    }

    public boolean isBelow(int one, int other, boolean orSame) {
        return orSame ? order(one, other) <= 0 : order(one, other) < 0;
    }

    public int end(boolean isGreatest) {
        for (int i = 0; i < 8; i++) {
            boolean isEnd = true;
            for (int j = 0; j < 8; j++) {
                isEnd &= isGreatest ? order(i, j) >= 0 : order(i, j) <= 0;
            }
            if (isEnd) {
                return i;
            }
        }
        return -1;
    }

    public int alike(int cell) {
        cell(cell);
        int count = 0;
        for (int i = 0; i < 8; i++) {
            count += isSame(i, cell) ? 1 : 0;
        }
        return count;
    }

    private static Told asked(int what, int eighths) {
        argue(what >= 1 && what <= 3 && inRange(eighths));
        return answer(what, argument(eighths));
    }

    public int signOf(int what, int eighths) {
        return asked(what, eighths).sign();
    }

    public int heightOf(int what, int eighths) {
        return asked(what, eighths).height();
    }

    public int firstOf(int what, int eighths, int many) {
        Told t = asked(what, eighths);
        argue(many >= 1 && many <= 24);
        return t.first(many);
    }

    private boolean alwaysSo(int what, int cell) {
        argue(what >= 1 && what <= 3);
        cell(cell);
        stand(isArgument(cell));
        return true;
    }

    public boolean isTurned(int what, int cell) {
        return alwaysSo(what, cell);
    }

    public boolean isFormula(int what, int cell) {
        return alwaysSo(what, cell);
    }

    public boolean isRising(int what, int eighths) {
        Told here = asked(what, eighths);
        argue(eighths < 320);
        return compare(here, asked(what, eighths + 1)) < 0;
    }

    public boolean isOne(int eighths) {
        return asked(3, eighths).eighths() == 8;
    }

    public boolean isMeeting(int eighths) {
        return same(asked(1, eighths), asked(2, eighths));
    }

    public boolean isBounded(int eighths) {
        argue(inRange(eighths));
        return true;
    }

    public boolean isNear(int which, int eighths) {
        int[] least = {-320, 0, -160, -160, -160, -8};
        int[] most = {320, 320, 160, 160, 160, 8};
        argue(which >= 0 && which <= 5);
        argue(eighths >= least[which] && eighths <= most[which]);
        return true;
    }

    public int house(int what) {
        argue(what >= 0 && what <= 5);
        if (what < 4) {
            return counts[what];
        }
        int count = 0;
        for (int i = 0; i < 8; i++) {
            count += (what == 4 ? isArgument(i) : isWhole(i)) ? 1 : 0;
        }
        return count;
    }

    public int knock() {
        return ++counts[3];
    }

    public boolean isSound() {
        return true;
    }

    public long digest() {
        long[] d = {7897};
        for (int what = 0; what < 6; what++) {
            add(d, house(what));
        }
        for (int i = 0; i < 8; i++) {
            add(d, sign(i));
            add(d, isNought(i) ? 1 : 0);
            add(d, eighths(i));
            add(d, origin(i));
            add(d, source(i));
            add(d, height(i));
            add(d, first(i, 24));
            add(d, text(i).length());
            add(d, alike(i));
            if (isWhole(i)) {
                add(d, upper(i));
                add(d, lower(i));
            }
        }
        add(d, end(true));
        add(d, end(false));
        for (int i = 0; i < 7; i++) {
            add(d, order(i, i + 1));
        }
        add(d, 1);
        return d[0];
    }

    private static void add(long[] d, long v) {
        d[0] = d[0] * 31 + v;
    }
}
