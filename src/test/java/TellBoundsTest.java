import java.util.ArrayList;
import java.util.List;

/** Promises 21 to 25 at their bounds: each sentence that names one has a test of its own. */
public final class TellBoundsTest {
    private static final Checks C = new Checks("TellBoundsTest");
    private static final int NONE = LandTaken.NONE, UNKNOWN = LandTaken.UNKNOWN, OUTSIDE = LandTaken.OUTSIDE,
            MIN = Checks.MIN, MAX = Checks.MAX;

    public static void main(String[] args) {
        lookAtTheEdges();
        lookWhat();
        lookTaken();
        piecesOfFields();
        pieceNumbers();
        pieceWhat();
        pieceFirst();
        countWhat();
        countNone();
        countMost();
        countByStages();
        digestOfANewObject();
        digestHouseAndRights();
        digestOfStages();
        digestWraps();
        digestOfAFullObject();
        fiveHundredAndTwelveCalls();
        C.end();
    }

    // ---- promise 21

    private static void lookAtTheEdges() {
        C.says("4 in the LINE. UNKNOWN; OUTSIDE.");
        Run x = Stage.PARTLY_ENTERED.run();
        for (int bad : Checks.beyond(0, 3)) {
            for (int row = 0; row < 3; row++) {
                int y = row;
                C.refused(x, UNKNOWN, () -> x.look(bad, y, 0));
            }
            C.refused(x, UNKNOWN, () -> x.look(bad, 0, 5));
        }
        for (int bad : Checks.beyond(0, 2)) {
            C.refused(x, UNKNOWN, () -> x.look(0, bad, 0));
            C.refused(x, UNKNOWN, () -> x.look(3, bad, -1));
        }
        C.due(x, x.look(0, 0, 0), 0);
        C.due(x, x.look(3, 0, 0), 0);
        C.due(x, x.look(0, 2, 0), NONE);
        C.due(x, x.look(3, 2, 0), NONE);
    }

    private static void lookWhat() {
        C.says("what = 0 its FIELD (NONE), 1 SOIL, 2 whether it is a LANE, 3 TAKEN, 4 in the LINE.");
        Run x = Stage.PARTLY_ENTERED.run();
        int[][] want = {{0, 0, 0, 0, 0}, {0, 0, 0, 1, 1}, {1, 1, 0, 0, 1}, {NONE, 0, 1, 1, 1}, {NONE, 0, 0, 1, 1},
            {NONE, 0, 1, 0, 0}, {NONE, 0, 0, 0, 0}};
        int[] cells = {0, 0, 1, 0, 1, 1, 1, 2, 3, 1, 0, 2, 3, 2};
        for (int i = 0; i < want.length; i++) {
            for (int what = 0; what < 5; what++) {
                C.due(x, x.look(cells[2 * i], cells[2 * i + 1], what), want[i][what]);
            }
        }
        for (int bad : Checks.beyond(0, 4)) {
            C.refused(x, OUTSIDE, () -> x.look(1, 1, bad));
        }
    }

    private static void lookTaken() {
        C.says("is TAKEN or not");
        Run x = Stage.DONE.run();
        C.due(x, x.look(1, 0, 3), 1);
        C.due(x, "it is of its FIELD still", x.look(1, 0, 0), 0);
        C.due(x, "the LINE is empty", x.look(1, 0, 4), 0);
        x.undo();
        C.due(x, x.look(1, 0, 3), 0);
        C.due(x, x.look(1, 0, 0), 0);
    }

    // ---- promises 22 and 23

    private static void piecesOfFields() {
        C.says("How many PIECES a FIELD has. UNKNOWN.");
        Run x = Stage.DONE.run();
        C.due(x, x.pieces(0), 2);
        C.due(x, x.pieces(1), 2);
        for (int bad : new int[] {-1, 2, 11, 12, MIN, MAX}) {
            C.refused(x, UNKNOWN, () -> x.pieces(bad));
        }
        Run twelve = new Run();
        twelve.map(12, 1);
        for (int f = 0; f < 12; f++) {
            twelve.field();
            twelve.cell(f, 0, f, 0);
        }
        C.due(twelve, twelve.pieces(0), 1);
        C.due(twelve, twelve.pieces(11), 1);
        C.refused(twelve, UNKNOWN, () -> twelve.pieces(12));
    }

    private static void pieceNumbers() {
        C.says("3 whether it HAS A WAY. UNKNOWN: f, i; OUTSIDE.");
        Run x = Stage.DONE.run();
        for (int bad : new int[] {-1, 2, 11, 12, MIN, MAX}) {
            C.refused(x, UNKNOWN, () -> x.piece(bad, 0, 0));
            C.refused(x, UNKNOWN, () -> x.piece(bad, 0, 4));
            C.refused(x, UNKNOWN, () -> x.piece(bad, -1, 0));
        }
        for (int bad : new int[] {-1, 2, 255, 256, MIN, MAX}) {
            C.refused(x, UNKNOWN, () -> x.piece(0, bad, 0));
            C.refused(x, UNKNOWN, () -> x.piece(0, bad, -1));
        }
        C.due(x, x.piece(0, 0, 0), 1);
        C.due(x, x.piece(0, 1, 0), 2);
    }

    private static void pieceWhat() {
        C.says("Of PIECE i: what = 0 how many CELLS, 1 the first (16 y and x), 2 whether it is MAIN, "
                + "3 whether it HAS A WAY.");
        Run x = Stage.DONE.run();
        int[][] want = {{1, 16, 1, 1}, {1, 16 + 2, 0, 0}};
        for (int i = 0; i < 2; i++) {
            for (int what = 0; what < 4; what++) {
                C.due(x, x.piece(1, i, what), want[i][what]);
            }
        }
        for (int bad : Checks.beyond(0, 3)) {
            C.refused(x, OUTSIDE, () -> x.piece(1, 0, bad));
            C.refused(x, OUTSIDE, () -> x.piece(1, 1, bad));
        }
    }

    private static void pieceFirst() {
        C.says("1 the first (16 y and x)");
        for (int w : new int[] {1, 5, 16}) {
            Run x = new Run();
            x.map(w, 16);
            x.field();
            x.cell(w - 1, 15, 0, 0);
            C.due(x, "whatever the width", x.piece(0, 0, 1), 16 * 15 + w - 1);
            x.cell(w - 1, 14, 0, 0);
            C.due(x, x.piece(0, 0, 1), 16 * 14 + w - 1);
            x.cell(0, 0, 0, 0);
            C.due(x, x.piece(0, 0, 1), 0);
        }
    }

    // ---- promise 24

    private static void countWhat() {
        C.says("6 whether an ORDER is MADE and not DONE, 7 ORDERS undone. OUTSIDE.");
        Run x = Stage.PARTLY_ENTERED.run();
        for (int bad : Checks.beyond(0, 7)) {
            C.refused(x, OUTSIDE, () -> x.count(bad));
        }
        C.due(x, x.count(0), 2);
        C.due(x, x.count(7), 0);
    }

    private static void countNone() {
        C.says("4 CASES of the latest ORDER");
        for (Stage stage : Stage.values()) {
            Run x = stage.run();
            C.due(x, x.count(4), stage.hasOrder() ? 2 : 0);
        }
        Run x = Stage.DONE.run();
        x.choose(0, 0);
        x.make();
        C.due(x, x.count(4), 1);
        x.object(0);
        x.hear(0, true);
        C.due(x, x.count(4), 1);
        x.undo();
        C.due(x, "the one ahead of it", x.count(4), 2);
    }

    private static void countMost() {
        C.says("How many: 0 FIELDS, 1 CELLS TAKEN, 2 CELLS in the LINE");
        Run x = new Run();
        x.map(16, 16);
        for (int f = 0; f < 12; f++) {
            x.field();
            x.cell(15 - f, 15, f, 0);
        }
        for (int place = 0; place < 256; place++) {
            x.line(place % 16, place / 16, true);
        }
        x.rate(4, 0);
        int[] made = {12, 0, 256, 1, 12, 0, 1, 0};
        int[] done = {12, 256, 0, 1, 12, 0, 0, 0};
        int[] undone = {12, 0, 0, 0, 0, 0, 0, 1};
        x.make();
        counts(x, made);
        x.enter();
        counts(x, done);
        C.due(x, x.undo(), 0);
        counts(x, undone);
    }

    private static void counts(Run x, int... want) {
        for (int what = 0; what < 8; what++) {
            C.due(x, x.count(what), want[what]);
        }
    }

    private static void countByStages() {
        C.says("3 ORDERS (not undone)");
        counts(Stage.NONE_MADE.run(), 2, 0, 4, 0, 0, 2, 0, 0);
        counts(Stage.MADE.run(), 2, 0, 4, 1, 2, 2, 1, 0);
        counts(Stage.OBJECTED.run(), 2, 0, 4, 1, 2, 2, 1, 0);
        counts(Stage.KEPT.run(), 2, 0, 4, 1, 2, 2, 1, 0);
        counts(Stage.PARTLY_ENTERED.run(), 2, 3, 4, 1, 2, 7, 1, 0);
        counts(Stage.DONE.run(), 2, 4, 0, 1, 2, 7, 0, 0);
        counts(Stage.STRUCK_OUT.run(), 2, 0, 0, 1, 2, 2, 0, 0);
        counts(Stage.UNDONE.run(), 2, 0, 0, 0, 0, 7, 0, 1);
    }

    // ---- promise 25

    private static long mixed(List<Long> numbers) {
        long h = 127;
        for (long number : numbers) {
            h = 31 * h + number;
        }
        return h;
    }

    private static void put(List<Long> numbers, long... more) {
        for (long number : more) {
            numbers.add(number);
        }
    }

    /** W, H, and what look() tells; each look on an object whose calls are not used up. */
    private static List<Long> looked(Run x) {
        List<Long> numbers = new ArrayList<>();
        put(numbers, x.wide(), x.high());
        Run now = x.again();
        for (int place = 0; place < x.wide() * x.high(); place++) {
            now = now.room() < 5 ? x.again() : now;
            for (int what = 0; what < 5; what++) {
                put(numbers, now.look(place % x.wide(), place / x.wide(), what));
            }
        }
        return numbers;
    }

    private static void digestOfANewObject() {
        C.says("h is 127, then for each of these numbers, in order, 31 times h, and it (as longs, wrapping)");
        List<Long> numbers = new ArrayList<>();
        put(numbers, 1, 1, NONE, 0, 0, 0, 0, 0, 0, 0, 0, 28, 0, 0, 0);
        C.due("digest() of a new object", new Run().digest(), mixed(numbers));
    }

    private static void digestHouseAndRights() {
        C.says("of each FIELD its HOUSE (16 y and x; NONE), of each RIGHT its kind, amount");
        Run x = new Run();
        x.map(3, 16);
        for (int f = 0; f < 3; f++) {
            x.field();
        }
        x.cell(2, 15, 1, 0);
        x.house(1, 2, 15);
        x.cell(0, 0, 2, 0);
        x.house(2, 0, 0);
        x.right(0, 2, 1000);
        x.right(2, 1, 1000000);
        x.right(2, 2, 0);
        x.right(2, 1, 0);
        x.right(2, 2, 1000);
        List<Long> numbers = looked(x);
        put(numbers, NONE, 2, 1000, 16 * 15 + 2, 0, 1, 1000000, 2, 0, 1, 0, 2, 1000);
        put(numbers, 0, 0, 0, 0, 28, 0, 0, 0);
        C.due(x, x.digest(), mixed(numbers));
        x.price(0, 0, 100);
        x.takeNow(0, 0);
        C.due(x, x.gets(0, 0, 0), 100);
        numbers = looked(x);
        put(numbers, NONE, 2, 1000, 16 * 15 + 2, 0, 1, 1000000, 2, 0, 1, 0, 2, 1000);
        put(numbers, 0, 2, 4, 0, 100, 0, 0, 0, 100, 0, 100, 0, 0, 1, 0);
        put(numbers, 0, 0, 0, 0, 28, 0, 0, 0);
        C.due(x, "the amount of a DEBT as it was told", x.digest(), mixed(numbers));
    }

    private static void digestOfStages() {
        C.says("of each ORDER (not undone) the day it was made, of each CASE what told() tells for 0 to 13; RATES; "
                + "what count() tells for 5 to 7");
        for (Stage stage : Stage.values()) {
            Run x = stage.run();
            List<Long> numbers = looked(x);
            put(numbers, 0, 1, 150, 2, 100, NONE, 2, 250);
            if (stage.hasOrder()) {
                put(numbers, 2);
                for (int k = 0; k < 2; k++) {
                    for (int what = 0; what < 14; what++) {
                        put(numbers, x.told(0, k, what));
                    }
                }
            }
            put(numbers, 250, 7, 50, 900, 5, x.count(5), x.count(6), x.count(7));
            C.due(stage + ": digest()", x.digest(), mixed(numbers));
        }
        Run x = Stage.DONE.run();
        x.pay(0, 0, 5);
        long before = x.digest();
        C.due(x, "a question changes nothing", x.digest(), before);
        x.days(100);
        x.choose(0, 0);
        x.make();
        List<Long> numbers = looked(x);
        put(numbers, 0, 1, 150, 2, 100, NONE, 2, 250, 2);
        put(numbers, 0, 4, 7, 100, 50, 14, 5, 159, 5, 154, 13, 0, 1, 0);
        put(numbers, 1, 4, 7, 40, 40, 14, 2, 92, 0, 92, 8, 0, 1, 69);
        put(numbers, 107, 0, 0, 0, 0, 0, 0, 0, 0, 0, 0, 0, 0, 1, 0);
        put(numbers, 250, 7, 50, 900, 5, 107, 1, 0);
        C.due(x, "two ORDERS", x.digest(), mixed(numbers));
    }

    private static void digestWraps() {
        C.says("(as longs, wrapping): W, H; of each CELL, row by row, what look() tells for 0 to 4");
        Run x = new Run();
        x.map(16, 16);
        List<Long> numbers = looked(x);
        C.due("numbers of the CELLS", numbers.size(), 2 + 5 * 256);
        put(numbers, 0, 0, 0, 0, 28, 0, 0, 0);
        C.due(x, x.digest(), mixed(numbers));
        x.lane(0, 0);
        numbers.set(4, 1L);
        C.due(x, "the first CELL counts", x.digest(), mixed(numbers));
        x.line(15, 15, true);
        numbers.set(2 + 5 * 256 - 1, 1L);
        C.due(x, "the last CELL counts", x.digest(), mixed(numbers));
    }

    private static void digestOfAFullObject() {
        C.says("of each ORDER (not undone) the day it was made");
        Run x = new Run();
        x.map(12, 1);
        for (int f = 0; f < 12; f++) {
            x.field();
            x.cell(f, 0, f, f % 4);
            for (int r = 0; r < 4; r++) {
                x.right(f, 1 + r % 2, r);
            }
        }
        x.price(3, 0, 50);
        x.rate(4, 0);
        for (int o = 0; o < 60; o++) {
            x.days(1);
            x.line(o % 12, 0, true);
            x.make();
            x.object(0);
            x.hear(0, true);
        }
        List<Long> numbers = looked(x);
        for (int f = 0; f < 12; f++) {
            put(numbers, NONE, 1, 0, 2, 1, 1, 2, 2, 3);
        }
        for (int o = 0; o < 60; o++) {
            put(numbers, o + 1, o % 12, 3, 0, 0, 0, 0, 0, 0, 0, 0, 0, 0, 1, 0);
        }
        put(numbers, 0, 0, 0, 0, 0, 60, 0, 0);
        C.due(x, x.digest(), mixed(numbers));
    }

    // ---- what it is

    private static void fiveHundredAndTwelveCalls() {
        C.says("An object is used for at most 512 calls after it has been made");
        Run x = new Run();
        x.map(2, 1);
        x.field();
        x.cell(0, 0, 0, 0);
        x.price(0, 0, 100);
        x.rate(4, 0);
        int undone = 0;
        while (x.room() > 5) {
            x.line(0, 0, true);
            C.due(x, x.make(), 1);
            C.due(x, x.enter(), 1);
            C.due(x, x.pay(0, 0, 101), 100);
            C.due(x, x.undo(), 100);
            undone++;
        }
        while (x.room() > 1) {
            C.due(x, x.count(7), undone);
        }
        C.due(x, "the last call", x.count(7), 101);
    }
}
