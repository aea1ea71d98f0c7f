/** What a CASE is worth at its ENTRY (promises 16, 19, 20), by PIECES, prices and rates. */
public final class WorthTest {
    private static final Checks C = new Checks("WorthTest");

    public static void main(String[] args) {
        landByPricesOfTheDay();
        lossRoundedForEachPiece();
        lossOfAllWithoutAWay();
        lossIfMainHasNoWay();
        lossByTheMapBehindTheWholeEntry();
        lossLessThatOfEarlierOrders();
        lossOfOrdersUndoneDoesNotCount();
        fence();
        betterAtMostTheWhole();
        betterWithoutAHouse();
        ratesOfTheEntry();
        rightsInOrder();
        C.end();
    }

    private static void told(Run x, int o, int k, long... want) {
        String[] name = {"LAND", "LOSS", "FENCE", "BETTER", "DUE"};
        for (int i = 0; i < want.length; i++) {
            C.due(name[i] + " of CASE " + k + " of ORDER " + o, x.told(o, k, 3 + i), want[i]);
        }
    }

    /** One FIELD, a row of n CELLS of SOIL 0, with its price; a row of no FIELD below. */
    private static Run strip(int n, int price) {
        Run x = new Run();
        x.map(n, 2);
        x.field();
        x.row(0, 0, n - 1, 0, 0);
        x.price(0, 0, price);
        return x;
    }

    private static void landByPricesOfTheDay() {
        Run x = strip(4, 10);
        x.cell(1, 0, 0, 1);
        x.cell(2, 0, 0, 3);
        x.price(0, 28, 100);
        x.price(1, 29, 1000);
        x.price(1, 27, 5);
        x.line(0, 0, true);
        x.line(1, 0, true);
        x.line(2, 0, true);
        x.make();
        x.days(28);
        x.price(0, 28, 200);
        x.enter();
        told(x, 0, 0, 205, 0, 0, 0, 205);
        x.price(0, 28, 300);
        told(x, 0, 0, 205, 0, 0, 0, 205);
    }

    private static void lossRoundedForEachPiece() {
        Run x = strip(7, 3);
        x.house(0, 3, 0);
        x.rate(0, 500);
        x.takeNow(1, 0, 5, 0);
        // Two pieces of one cell each: 3 * 500 / 1000 is 1 for each of them, 3 for both together.
        told(x, 0, 0, 6, 2, 0, 0, 8);
    }

    private static void lossOfAllWithoutAWay() {
        Run x = strip(7, 100);
        x.house(0, 3, 0);
        x.lane(3, 1);
        x.lane(6, 1);
        x.rate(0, 250);
        x.takeNow(1, 0, 5, 0);
        // The left piece has no way: all of it; the right one has one: a quarter.
        told(x, 0, 0, 200, 125, 0, 0, 325);
        C.due("piece(0, 0, 3)", x.piece(0, 0, 3), 0);
        C.due("piece(0, 1, 3)", x.piece(0, 1, 3), 1);
        C.due("piece(0, 2, 3)", x.piece(0, 2, 3), 1);
    }

    private static void lossIfMainHasNoWay() {
        Run x = strip(7, 100);
        x.house(0, 3, 0);
        x.lane(6, 1);
        x.rate(0, 250);
        x.takeNow(1, 0, 5, 0);
        told(x, 0, 0, 200, 50, 0, 0, 250);
    }

    private static void lossByTheMapBehindTheWholeEntry() {
        // The lane that the main piece had is taken in the same entry: neither has a way then.
        Run x = strip(5, 100);
        x.house(0, 0, 0);
        x.lane(0, 1);
        x.rate(0, 100);
        x.takeNow(2, 0, 0, 1);
        told(x, 0, 0, 100, 20, 0, 0, 120);

        // A later entry of the same order sees what the first one took, and what it takes itself.
        Run y = new Run();
        y.map(5, 2);
        y.field();
        y.field();
        y.row(0, 0, 4, 0, 0);
        y.row(1, 1, 4, 1, 0);
        y.lane(0, 1);
        y.price(0, 0, 100);
        y.rate(0, 100);
        y.house(0, 0, 0);
        y.rate(4, 0);
        y.line(2, 0, true);
        y.line(2, 1, true);
        y.line(0, 1, true);
        y.make();
        y.object(0);
        y.enter();
        C.due("pieces(0): OBJECTED to, its CELL is not TAKEN", y.pieces(0), 1);
        C.due("pieces(1)", y.pieces(1), 2);
        C.due("LOSS of FIELD 1: its first PIECE", y.told(0, 1, 4), 10);
        C.due("LOSS of FIELD 0 is 0, not ENTERED", y.told(0, 0, 4), 0);
        C.due("LAND of FIELD 0 is 0, not ENTERED", y.told(0, 0, 3), 0);
        y.hear(0, false);
        y.enter();
        told(y, 0, 0, 100, 20, 0, 0, 120);
    }

    private static void lossLessThatOfEarlierOrders() {
        Run x = strip(9, 100);
        x.house(0, 0, 0);
        x.rate(0, 500);
        x.takeNow(4, 0);
        told(x, 0, 0, 100, 200, 0, 0, 300);
        x.takeNow(2, 0);
        // Now 3, and 5 to 8 are cut off: 50 and 200, less 200.
        told(x, 1, 0, 100, 50, 0, 0, 150);
        x.takeNow(6, 0);
        // 3, 5, 7 and 8: 50, 50, 100 are less than 250.
        told(x, 2, 0, 100, 0, 0, 0, 100);
        x.rate(0, 1000);
        x.takeNow(5, 0);
        // 3, 7 and 8: 300, less what was LOSS so far, 250.
        told(x, 3, 0, 100, 50, 0, 0, 150);
    }

    private static void lossOfOrdersUndoneDoesNotCount() {
        Run x = strip(9, 100);
        x.house(0, 0, 0);
        x.rate(0, 500);
        x.takeNow(4, 0);
        x.undo();
        x.takeNow(4, 0);
        told(x, 0, 0, 100, 200, 0, 0, 300);
        Run y = new Run();
        y.map(5, 2);
        y.field();
        y.field();
        y.row(0, 0, 4, 0, 0);
        y.row(1, 0, 4, 1, 0);
        y.price(0, 0, 100);
        y.rate(0, 500);
        y.house(0, 0, 0);
        y.house(1, 0, 1);
        y.takeNow(2, 0);
        y.takeNow(2, 1);
        told(y, 0, 0, 100, 100, 0, 0, 200);
        // Another field's loss is not taken off.
        told(y, 1, 0, 100, 100, 0, 0, 200);
    }

    private static void fence() {
        Run x = new Run();
        x.map(4, 4);
        x.field();
        x.field();
        for (int y = 0; y < 3; y++) {
            x.row(y, 0, 2, 0, 0);
            x.cell(3, y, 1, 0);
        }
        x.rate(1, 7);
        x.takeNow(1, 1);
        told(x, 0, 0, 0, 0, 28, 0, 28);
        // (1, 0) and (2, 1) border on (0, 0), (2, 0), and on (2, 0), (2, 2); the taken one and FIELD 1 do not count.
        x.takeNow(1, 0, 2, 1);
        told(x, 1, 0, 0, 0, 28, 0, 28);
        // (2, 0) borders on nothing of its FIELD any more.
        x.takeNow(2, 0, 3, 0);
        told(x, 2, 0, 0, 0, 0, 0, 0);
        told(x, 2, 1, 0, 0, 7, 0, 7);
    }

    private static void betterAtMostTheWhole() {
        Run x = strip(5, 99);
        x.rate(2, 100);
        x.house(0, 4, 0);
        x.takeNow(0, 0);
        // 396 * 100 / 1000 is 39.6.
        told(x, 0, 0, 99, 0, 0, 39, 60);
        x.rate(2, 1000);
        x.takeNow(1, 0);
        told(x, 1, 0, 99, 0, 0, 99, 0);
        x.rate(1, 100);
        x.takeNow(2, 0);
        told(x, 2, 0, 99, 0, 100, 198, 1);
    }

    private static void betterWithoutAHouse() {
        Run x = strip(8, 100);
        x.rate(2, 100);
        x.takeNow(2, 0);
        // Of 0 to 1 and 3 to 7 the second is MAIN.
        told(x, 0, 0, 100, 0, 0, 50, 50);
        x.rate(0, 1000);
        x.takeNow(5, 0);
        // Three pieces of two cells: the first is MAIN.
        told(x, 1, 0, 100, 400, 0, 20, 480);
        C.due("piece(0, 0, 2)", x.piece(0, 0, 2), 1);
        C.due("piece(0, 1, 2)", x.piece(0, 1, 2), 0);
        x.takeNow(0, 0, 1, 0, 3, 0, 4, 0, 6, 0, 7, 0);
        // Nothing is left: no pieces, no MAIN.
        told(x, 2, 0, 600, 0, 0, 0, 600);
        C.due("pieces(0)", x.pieces(0), 0);
    }

    private static void ratesOfTheEntry() {
        Run x = strip(5, 100);
        x.house(0, 0, 0);
        x.rate(4, 5);
        x.line(2, 0, true);
        x.make();
        x.days(5);
        x.rate(0, 100);
        x.rate(1, 3);
        x.rate(2, 50);
        x.rate(3, 1000);
        x.enter();
        x.rate(0, 900);
        x.rate(1, 9);
        x.rate(2, 500);
        x.rate(3, 10000);
        told(x, 0, 0, 100, 20, 6, 10, 116);
        x.days(100);
        C.due("INTEREST by the rate of the ENTRY", x.told(0, 0, 10), 11);
    }

    private static void rightsInOrder() {
        Run x = strip(5, 999);
        x.right(0, 2, 333);
        x.right(0, 1, 500);
        x.right(0, 2, 100);
        x.right(0, 1, 5000);
        x.line(0, 0, true);
        x.rate(4, 0);
        x.make();
        C.due("gets: not ENTERED", x.gets(0, 0, 1), 0);
        C.due("told(0, 0, 13): not ENTERED", x.told(0, 0, 13), 0);
        x.enter();
        gets(x, 0, 332, 500, 99, 68, 0);
        x.takeNow(1, 0);
        gets(x, 1, 332, 0, 99, 568, 0);
        x.takeNow(2, 0, 3, 0, 4, 0);
        gets(x, 2, 998, 0, 299, 1700, 0);
        x.undo();
        x.undo();
        x.takeNow(2, 0, 3, 0, 4, 0);
        gets(x, 1, 998, 0, 299, 1700, 0);
        x.undo();
        x.undo();
        x.takeNow(0, 0, 1, 0, 2, 0, 3, 0, 4, 0);
        gets(x, 0, 1663, 500, 499, 2333, 0);

        Run y = strip(2, 1000);
        y.right(0, 2, 600);
        y.right(0, 2, 600);
        y.right(0, 1, 10);
        y.takeNow(0, 0);
        gets(y, 0, 600, 400, 0, LandTaken.UNKNOWN, 0);

        Run z = strip(2, 1000);
        z.right(0, 1, 300);
        z.right(0, 2, 500);
        z.takeNow(0, 0);
        gets(z, 0, 300, 500, LandTaken.UNKNOWN, LandTaken.UNKNOWN, 200);
        z.takeNow(1, 0);
        gets(z, 1, 0, 500, LandTaken.UNKNOWN, LandTaken.UNKNOWN, 500);
    }

    private static void gets(Run x, int o, long a, long b, long c, long d, long owner) {
        long[] want = {a, b, c, d};
        for (int r = 0; r < 4; r++) {
            C.due("gets(" + o + ", 0, " + r + ")", x.gets(o, 0, r), want[r]);
        }
        C.due("told(" + o + ", 0, 13)", x.told(o, 0, 13), owner);
    }
}
