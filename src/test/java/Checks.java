import java.util.function.LongSupplier;

/** What the tests share: they count answers that are not as due, and watch that a refused call changes nothing. */
final class Checks {
    private final String name;
    private int asked;
    private int wrong;

    Checks(String name) {
        this.name = name;
    }

    void due(String call, long got, long want) {
        asked++;
        if (got != want) {
            wrong++;
            System.out.println(name + ": " + call + " answered " + got + ", due is " + want);
        }
    }

    void holds(String what, boolean is) {
        due(what, is ? 1 : 0, 1);
    }

    /** The call answers the refusal, and all that can be asked of the object stays as it was. */
    void refused(LandTaken x, String call, long want, LongSupplier asks) {
        String before = whole(x);
        due(call, asks.getAsLong(), want);
        asked++;
        if (!whole(x).equals(before)) {
            wrong++;
            System.out.println(name + ": " + call + " was refused and changed something");
        }
    }

    void end() {
        System.out.println(name + ": " + asked + " answers, " + wrong + " not as due");
        if (wrong != 0) {
            System.exit(1);
        }
    }

    /** All that an object tells; prices and rights are not in its digest. */
    static String whole(LandTaken x) {
        StringBuilder text = new StringBuilder();
        text.append(x.digest());
        for (int what = 0; what < 8; what++) {
            text.append(' ').append(x.count(what));
        }
        for (int soil = 0; soil < 4; soil++) {
            for (int day = 0; day <= 60; day++) {
                text.append(' ').append(x.costs(soil, day));
            }
            text.append(' ').append(x.costs(soil, 10000));
        }
        for (int f = 0; f < x.count(0); f++) {
            text.append(" f").append(x.pieces(f));
            for (int i = 0; i < x.pieces(f); i++) {
                for (int what = 0; what < 4; what++) {
                    text.append(' ').append(x.piece(f, i, what));
                }
            }
        }
        for (int o = 0; o < x.count(3); o++) {
            for (int k = 0; x.told(o, k, 0) >= 0; k++) {
                for (int r = 0; r < 4; r++) {
                    text.append(' ').append(x.gets(o, k, r));
                }
            }
        }
        return text.toString();
    }

    /** A field f is laid over a row of cells, all of one soil. */
    static void row(LandTaken x, int y, int from, int to, int f, int soil) {
        for (int at = from; at <= to; at++) {
            x.cell(at, y, f, soil);
        }
    }

    /** An order over the cells given as x, y, x, y .., entered at once (the days of notice are 0 while it is made). */
    static int takeNow(LandTaken x, int... cells) {
        int notice = x.rate(4, 0);
        for (int i = 0; i + 1 < cells.length; i += 2) {
            x.line(cells[i], cells[i + 1], true);
        }
        x.make();
        x.rate(4, notice);
        return x.enter();
    }
}
