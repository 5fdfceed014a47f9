import java.math.BigInteger;

/** Eight cells as unlike as they can be, and all that an object tells. */
final class Cells {
    private Cells() {
    }

    /** An argument, both noughts, answers of each function, told whole or not, turned or not; all is counted. */
    static Chaincurves mixed() {
        Chaincurves x = new Chaincurves();
        x.put(0, 12);
        x.putMinusNought(1);
        x.make(1, 5, 2);
        x.turn(2);
        x.make(2, -7, 3);
        x.make(3, 152, 4);
        x.make(3, 7, 5);
        // NOUGHT that comes from MINUS NOUGHT: only bring() shows the source's sign.
        x.tanh(1, 6);
        x.turn(6);
        x.make(1, 320, 7);
        x.turn(0);
        x.swap(0, 0);
        x.swap(3, 3);
        x.knock();
        return x;
    }

    /** All that an object tells, in one text; the object is used up by it. Some 240 calls. */
    static String tell(Chaincurves x) {
        StringBuilder line = new StringBuilder();
        tellCounts(x, line);
        line.append(x.digest()).append(' ').append(x.isSound()).append(' ');
        line.append(x.end(true)).append(x.end(false)).append('\n');
        for (int cell = 0; cell < 8; cell++) {
            tellCell(x, cell, line);
            for (int other = 0; other <= cell; other++) {
                line.append(x.order(cell, other)).append(x.isSame(cell, other)).append(' ');
            }
            line.append('\n');
        }
        for (int cell = 0; cell < 8; cell++) {
            line.append(x.bring(cell)).append(x.text(cell)).append(' ');
        }
        tellCounts(x, line);
        return line.append(x.knock()).toString();
    }

    private static void tellCounts(Chaincurves x, StringBuilder line) {
        for (int what = 0; what <= 5; what++) {
            line.append(x.house(what)).append(' ');
        }
    }

    private static void tellCell(Chaincurves x, int cell, StringBuilder line) {
        line.append(x.sign(cell)).append(x.isNought(cell)).append(x.isArgument(cell)).append(' ');
        line.append(x.eighths(cell)).append(' ').append(x.origin(cell)).append(' ').append(x.source(cell)).append(' ');
        if (x.isWhole(cell)) {
            line.append(x.upper(cell)).append(' ').append(x.lower(cell)).append(' ');
        }
        line.append(x.height(cell)).append(' ').append(x.first(cell, 24)).append(' ').append(x.digit(cell, 23)).append(' ');
        if (x.height(cell) <= 23) {
            line.append(x.floor(cell)).append(' ');
        }
        line.append(x.text(cell)).append(' ').append(x.alike(cell)).append(' ');
    }

    /** The digest's number as it would be without a wrap-around. */
    static BigInteger unwrappedDigest(Chaincurves x) {
        BigInteger[] d = {BigInteger.valueOf(7897)};
        for (int what = 0; what <= 5; what++) {
            add(d, x.house(what));
        }
        for (int cell = 0; cell < 8; cell++) {
            add(d, x.sign(cell));
            add(d, x.isNought(cell) ? 1 : 0);
            add(d, x.eighths(cell));
            add(d, x.origin(cell));
            add(d, x.source(cell));
            add(d, x.height(cell));
            add(d, x.first(cell, 24));
            add(d, x.text(cell).length());
            add(d, x.alike(cell));
            if (x.isWhole(cell)) {
                add(d, x.upper(cell));
                add(d, x.lower(cell));
            }
        }
        add(d, x.end(true));
        add(d, x.end(false));
        for (int cell = 0; cell < 7; cell++) {
            add(d, x.order(cell, cell + 1));
        }
        add(d, x.isSound() ? 1 : 0);
        return d[0];
    }

    private static void add(BigInteger[] d, int v) {
        d[0] = d[0].multiply(BigInteger.valueOf(31)).add(BigInteger.valueOf(v));
    }
}
