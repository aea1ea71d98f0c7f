/** PIECES, what a CASE is worth and who gets it, at their bounds: each sentence that names one has its own test. */
public final class WorthBoundsTest {
    private static final Checks C = new Checks("WorthBoundsTest");
    private static final int UNKNOWN = LandTaken.UNKNOWN, OUTSIDE = LandTaken.OUTSIDE, NONE = LandTaken.NONE;
    private static final int LOSS = 4, FENCE = 5, BETTER = 6, DUE = 7, OWNER = 13;
    private static final int DEBT = 1, TENANT = 2;

    public static void main(String[] args) {
        piecesBySides();
        piecesOfNoneAndMost();
        piecesRowByRow();
        mainWithTheHouse();
        mainWithoutAHouse();
        wayByALane();
        wayByALaneNotTaken();
        landByPricesOfThatDay();
        allCellsOfThisEntry();
        lossRoundedDown();
        lossOfEachPiece();
        lossByWays();
        lossLessThatBefore();
        lossNotUndone();
        lossOfTheFieldAlone();
        fenceSides();
        fenceNotTakenThen();
        betterRoundedDown();
        betterAtMost();
        betterWithoutMain();
        dueOfNothing();
        tenantRoundedDown();
        debtAsFarAsThereIs();
        debtLeftBehindEarlierCases();
        ownerHasWhatIsLeft();
        greatestSums();
        C.end();
    }

    /** FIELD 0 is row 0, n CELLS of SOIL 0 at a price; row 1 is of no FIELD. */
    private static Run strip(int n, int price) {
        Run x = new Run();
        x.map(n, 2);
        x.field();
        x.row(0, 0, n - 1, 0, 0);
        x.price(0, 0, price);
        return x;
    }

    private static void piece(Run x, int i, int... want) {
        for (int what = 0; what < 4; what++) {
            C.due(x, x.piece(0, i, what), want[what]);
        }
    }

    // ---- PIECES

    private static void piecesBySides() {
        C.says("CELLS border by sides.");
        for (int w : new int[] {2, 3, 15, 16}) {
            Run x = new Run();
            x.map(w, 2);
            x.field();
            x.cell(w - 1, 0, 0, 0);
            x.cell(0, 1, 0, 0);
            C.due(x, "the end of a row and the start of the next one", x.pieces(0), 2);
            x.cell(w - 1, 1, 0, 0);
            C.due(x, "one below the other", x.pieces(0), w == 2 ? 1 : 2);
            x.cell(w - 2, 0, 0, 0);
            C.due(x, "one beside the other", x.piece(0, 0, 0), w == 2 ? 4 : 3);
        }
        Run corner = new Run();
        corner.map(2, 2);
        corner.field();
        corner.cell(0, 0, 0, 0);
        corner.cell(1, 1, 0, 0);
        C.due(corner, "corners do not count", corner.pieces(0), 2);
        Run other = new Run();
        other.map(2, 2);
        other.field();
        other.cell(1, 0, 0, 0);
        other.cell(0, 1, 0, 0);
        C.due(other, "corners do not count", other.pieces(0), 2);
    }

    private static void piecesOfNoneAndMost() {
        C.says("PIECES of a FIELD: its CELLS that are not TAKEN, as they hang together by sides");
        Run x = new Run();
        x.map(16, 16);
        x.field();
        C.due(x, x.pieces(0), 0);
        for (int place = 0; place < 256; place++) {
            if ((place % 16 + place / 16) % 2 == 0) {
                x.cell(place % 16, place / 16, 0, 0);
            }
        }
        C.due(x, x.pieces(0), 128);
        piece(x, 0, 1, 0, 1, 0);
        piece(x, 127, 1, 255, 0, 0);
        C.refused(x, UNKNOWN, () -> x.piece(0, 128, 0));
        x.takeNow(0, 0);
        C.due(x, x.pieces(0), 127);
        piece(x, 0, 1, 2, 1, 0);
        Run whole = new Run();
        whole.map(16, 16);
        whole.field();
        for (int place = 0; place < 256; place++) {
            whole.cell(place % 16, place / 16, 0, 0);
        }
        C.due(whole, whole.pieces(0), 1);
        piece(whole, 0, 256, 0, 1, 0);
        C.refused(whole, UNKNOWN, () -> whole.piece(0, 1, 0));
        Run one = strip(1, 5);
        one.takeNow(0, 0);
        C.due(one, "all is TAKEN", one.pieces(0), 0);
        C.refused(one, UNKNOWN, () -> one.piece(0, 0, 0));
        one.undo();
        C.due(one, one.pieces(0), 1);
    }

    private static void piecesRowByRow() {
        C.says("numbered by their first CELL, row by row");
        Run x = new Run();
        x.map(4, 3);
        x.field();
        // . . . 0 / 0 . 0 0 / 0 0 . . : the piece that ends further right and lower begins further up.
        x.cell(0, 2, 0, 0);
        x.cell(1, 2, 0, 0);
        x.cell(0, 1, 0, 0);
        x.cell(3, 1, 0, 0);
        x.cell(2, 1, 0, 0);
        x.cell(3, 0, 0, 0);
        C.due(x, x.pieces(0), 2);
        piece(x, 0, 3, 3, 1, 0);
        piece(x, 1, 3, 16, 0, 0);
        x.cell(1, 0, 0, 0);
        C.due(x, x.pieces(0), 3);
        piece(x, 0, 1, 1, 0, 0);
        piece(x, 1, 3, 3, 1, 0);
        x.cell(1, 1, 0, 0);
        C.due(x, "all hang together", x.pieces(0), 1);
        piece(x, 0, 8, 1, 1, 0);
        Run end = new Run();
        end.map(16, 16);
        end.field();
        end.cell(15, 15, 0, 0);
        piece(end, 0, 1, 255, 1, 0);
        C.refused(end, OUTSIDE, () -> end.piece(0, 0, 4));
    }

    private static void mainWithTheHouse() {
        C.says("MAIN is the one with the HOUSE");
        Run x = strip(7, 10);
        x.house(0, 6, 0);
        x.takeNow(5, 0);
        piece(x, 0, 5, 0, 0, 0);
        piece(x, 1, 1, 6, 1, 0);
        x.takeNow(2, 0);
        piece(x, 0, 2, 0, 0, 0);
        piece(x, 1, 2, 3, 0, 0);
        piece(x, 2, 1, 6, 1, 0);
        Run first = strip(3, 10);
        first.house(0, 0, 0);
        first.takeNow(1, 0);
        piece(first, 0, 1, 0, 1, 0);
        piece(first, 1, 1, 2, 0, 0);
    }

    private static void mainWithoutAHouse() {
        C.says("without any HOUSE that is not TAKEN the one of most CELLS, of like ones the first");
        Run x = strip(9, 10);
        x.takeNow(2, 0);
        piece(x, 0, 2, 0, 0, 0);
        piece(x, 1, 6, 3, 1, 0);
        x.takeNow(5, 0);
        piece(x, 0, 2, 0, 0, 0);
        piece(x, 1, 2, 3, 0, 0);
        piece(x, 2, 3, 6, 1, 0);
        x.takeNow(8, 0);
        piece(x, 0, 2, 0, 1, 0);
        piece(x, 1, 2, 3, 0, 0);
        piece(x, 2, 2, 6, 0, 0);
        Run house = strip(5, 10);
        house.house(0, 0, 0);
        house.takeNow(2, 0);
        piece(house, 0, 2, 0, 1, 0);
        house.takeNow(0, 0);
        piece(house, 0, 1, 1, 0, 0);
        piece(house, 1, 2, 3, 1, 0);
        house.undo();
        piece(house, 0, 2, 0, 1, 0);
        piece(house, 1, 2, 3, 0, 0);
    }

    private static void wayByALane() {
        C.says("A PIECE HAS A WAY, if some CELL of it borders on a LANE that is not TAKEN");
        for (int place = 0; place < 9; place++) {
            if (place != 4) {
                Run x = new Run();
                x.map(3, 3);
                x.field();
                x.cell(1, 1, 0, 0);
                x.lane(place % 3, place / 3);
                C.due(x, "a LANE at " + place, x.piece(0, 0, 3), place % 2);
            }
        }
        Run x = new Run();
        x.map(16, 2);
        x.field();
        x.cell(0, 1, 0, 0);
        x.lane(15, 0);
        C.due(x, "the end of the row above", x.piece(0, 0, 3), 0);
        x.lane(2, 1);
        C.due(x, "one CELL between", x.piece(0, 0, 3), 0);
        x.cell(1, 1, 0, 0);
        C.due(x, "its last CELL borders on it", x.piece(0, 0, 3), 1);
        x.cell(1, 1, NONE, 0);
        C.due(x, x.piece(0, 0, 3), 0);
    }

    private static void wayByALaneNotTaken() {
        C.says("borders on a LANE that is not TAKEN");
        Run x = strip(3, 10);
        x.lane(0, 1);
        x.lane(1, 1);
        x.rate(4, 3);
        C.due(x, x.piece(0, 0, 3), 1);
        x.choose(2, 0, 0, 1);
        x.make();
        C.due(x, "in the LINE, not TAKEN yet", x.piece(0, 0, 3), 1);
        x.days(3);
        x.enter();
        C.due(x, "the other LANE is left", x.piece(0, 0, 3), 1);
        x.takeNow(1, 0, 1, 1);
        C.due(x, x.piece(0, 0, 3), 0);
        x.undo();
        C.due(x, "the LANE is given back", x.piece(0, 0, 3), 1);
    }

    // ---- LAND

    private static void landByPricesOfThatDay() {
        C.says("A CASE as ENTERED, by PRICES of that day and RATES then");
        for (int day = 4; day <= 6; day++) {
            Run x = strip(3, 10);
            x.cell(1, 0, 0, 3);
            x.price(0, 5, 20);
            x.price(3, 6, 7);
            x.rate(4, 0);
            x.choose(0, 0, 1, 0);
            x.make();
            x.days(day);
            x.price(0, 6, 30);
            x.enter();
            int[] want = {10, 20, 30 + 7};
            C.told(x, 0, 0, 3, want[day - 4], 0, 0, 0, want[day - 4]);
            x.price(0, day, 99);
            x.price(3, day, 99);
            x.days(1);
            C.told(x, 0, 0, 3, want[day - 4], 0, 0, 0, want[day - 4]);
        }
        Run none = strip(2, 0);
        none.takeNow(1, 0);
        C.told(none, 0, 0, 3, 0, 0, 0, 0, 0);
    }

    private static void allCellsOfThisEntry() {
        C.says("all CELLS of this ENTRY being TAKEN");
        // FIELD 0's main piece has its way over a lane that is taken in the same entry, or in a later one.
        for (boolean isLaneInLine : new boolean[] {true, false}) {
            Run x = strip(3, 100);
            x.lane(0, 1);
            x.house(0, 0, 0);
            x.rate(0, 100);
            x.line(0, 1, isLaneInLine);
            x.takeNow(1, 0);
            C.due(x, x.told(0, 0, LOSS), isLaneInLine ? 10 : 100);
        }
    }

    // ---- LOSS

    private static void lossRoundedDown() {
        C.says("its prices, times RATE 0 by 1000, rounded down");
        int[][] rows = {{999, 1, 0}, {1000, 1, 1}, {1, 999, 0}, {1, 1000, 1}, {1999, 1, 1}, {100000, 0, 0},
            {100000, 1000, 100000}, {100000, 999, 99900}, {0, 1000, 0}, {3, 500, 1}, {99999, 333, 33299}};
        for (int[] row : rows) {
            Run x = strip(3, row[0]);
            x.house(0, 0, 0);
            x.rate(0, row[1]);
            x.takeNow(1, 0);
            C.due("LOSS of " + row[0] + " by " + row[1], x.told(0, 0, LOSS), row[2]);
        }
    }

    private static void lossOfEachPiece() {
        C.says("LOSS, of each PIECE but MAIN, as it is behind the ENTRY");
        Run x = strip(7, 3);
        x.house(0, 3, 0);
        x.rate(0, 500);
        x.takeNow(1, 0, 5, 0);
        C.due(x, "1.5 of each of two", x.told(0, 0, LOSS), 2);
        Run y = strip(4, 3);
        y.house(0, 0, 0);
        y.rate(0, 500);
        y.takeNow(1, 0);
        C.due(y, "3 of two CELLS together", y.told(0, 0, LOSS), 3);
        Run none = strip(4, 3);
        none.rate(0, 1000);
        none.takeNow(3, 0);
        C.due(none, "no PIECE but MAIN", none.told(0, 0, LOSS), 0);
        Run all = strip(4, 3);
        all.rate(0, 1000);
        all.takeNow(0, 0, 1, 0, 2, 0, 3, 0);
        C.due(all, "no PIECE at all", all.told(0, 0, LOSS), 0);
        Run apart = new Run();
        apart.map(4, 1);
        apart.field();
        apart.row(0, 0, 1, 0, 0);
        apart.cell(3, 0, 0, 0);
        apart.price(0, 0, 10);
        apart.rate(0, 1000);
        apart.takeNow(0, 0);
        C.due(apart, "a PIECE that was apart ahead of it, too", apart.told(0, 0, LOSS), 10);
    }

    private static void lossByWays() {
        C.says("or all of them, if it HAS no WAY and MAIN has one");
        for (int rate : new int[] {0, 250, 1000}) {
            for (int ways = 0; ways < 4; ways++) {
                boolean mainHasOne = ways % 2 == 1;
                boolean pieceHasOne = ways / 2 == 1;
                Run x = strip(5, 100);
                x.house(0, 0, 0);
                x.rate(0, rate);
                if (mainHasOne) {
                    x.lane(1, 1);
                }
                if (pieceHasOne) {
                    x.lane(4, 1);
                }
                x.takeNow(2, 0);
                C.due("LOSS by ways " + ways, x.told(0, 0, LOSS), mainHasOne && !pieceHasOne ? 200 : rate / 5);
            }
        }
        Run last = strip(5, 100);
        last.house(0, 4, 0);
        last.lane(4, 1);
        last.takeNow(2, 0);
        C.due(last, "MAIN is not the first", last.told(0, 0, LOSS), 200);
    }

    /** Of 0 to 4, with the HOUSE at 0, first 3 is TAKEN (4 is cut off: LOSS 50), then 1 (2 and 4 are). */
    private static Run takenTwice(int secondRate) {
        Run x = strip(5, 100);
        x.house(0, 0, 0);
        x.rate(0, 500);
        x.takeNow(3, 0);
        x.rate(0, secondRate);
        x.takeNow(1, 0);
        return x;
    }

    private static void lossLessThatBefore() {
        C.says("all PIECES together, less what was LOSS of the FIELD in ORDERS before (not undone), but not below 0");
        int[][] rows = {{0, 0}, {240, 0}, {249, 0}, {250, 0}, {259, 0}, {260, 2}, {500, 50}, {1000, 150}};
        for (int[] row : rows) {
            Run x = takenTwice(row[0]);
            C.due(x, x.told(0, 0, LOSS), 50);
            C.due("LOSS by " + row[0], x.told(1, 0, LOSS), row[1]);
        }
        Run x = takenTwice(0);
        x.rate(0, 1000);
        x.takeNow(2, 0);
        C.due(x, "what was below 0 counts as 0", x.told(2, 0, LOSS), 100 - 50);
        Run y = takenTwice(1000);
        y.takeNow(2, 0);
        C.due(y, "both before count", y.told(2, 0, LOSS), 0);
    }

    private static void lossNotUndone() {
        C.says("in ORDERS before (not undone)");
        Run x = strip(5, 100);
        x.house(0, 0, 0);
        x.rate(0, 500);
        x.takeNow(3, 0);
        x.undo();
        x.takeNow(1, 0);
        C.due(x, x.told(0, 0, LOSS), 150);
        Run y = takenTwice(500);
        y.undo();
        y.takeNow(1, 0);
        C.due(y, y.told(1, 0, LOSS), 50);
    }

    private static void lossOfTheFieldAlone() {
        C.says("less what was LOSS of the FIELD in ORDERS before");
        Run x = strip(3, 100);
        x.field();
        x.row(1, 0, 2, 1, 0);
        x.house(0, 0, 0);
        x.house(1, 0, 1);
        x.rate(0, 500);
        x.takeNow(1, 0);
        x.takeNow(1, 1);
        C.due(x, x.told(0, 0, LOSS), 50);
        C.due(x, "another FIELD's does not count", x.told(1, 0, LOSS), 50);
        Run both = strip(3, 100);
        both.field();
        both.row(1, 0, 2, 1, 0);
        both.house(0, 0, 0);
        both.house(1, 0, 1);
        both.rate(0, 500);
        both.takeNow(1, 0, 1, 1);
        C.due(both, both.told(0, 0, LOSS), 50);
        C.due(both, "nor in the same ORDER", both.told(0, 1, LOSS), 50);
    }

    // ---- FENCE

    private static void fenceSides() {
        C.says("FENCE: RATE 1 for each side between a CELL of the CASE and one of its FIELD");
        for (int place = 0; place < 9; place++) {
            Run x = new Run();
            x.map(3, 3);
            x.field();
            for (int y = 0; y < 3; y++) {
                x.row(y, 0, 2, 0, 0);
            }
            x.rate(1, 10);
            x.takeNow(place % 3, place / 3);
            C.due("FENCE about " + place, x.told(0, 0, FENCE), place == 4 ? 40 : place % 2 == 1 ? 30 : 20);
        }
        for (int rate : new int[] {0, 1, 100000}) {
            Run x = strip(3, 0);
            x.rate(1, rate);
            x.takeNow(1, 0);
            C.due("FENCE of two sides by " + rate, x.told(0, 0, FENCE), 2 * rate);
        }
        Run x = new Run();
        x.map(16, 3);
        x.field();
        x.cell(15, 0, 0, 0);
        x.cell(0, 1, 0, 0);
        x.cell(15, 1, 0, 0);
        x.cell(0, 2, 0, 0);
        x.rate(1, 1);
        x.takeNow(15, 0);
        C.due(x, "a row's end does not border on the next one's start", x.told(0, 0, FENCE), 1);
    }

    private static void fenceNotTakenThen() {
        C.says("one of its FIELD that is not TAKEN then");
        Run x = new Run();
        x.map(3, 3);
        x.field();
        x.field();
        for (int y = 0; y < 3; y++) {
            x.row(y, 0, 2, 0, 0);
        }
        x.cell(1, 0, 1, 0);
        x.lane(0, 1);
        x.cell(2, 1, NONE, 0);
        x.rate(1, 1);
        C.due("another FIELD, a LANE, no FIELD", fenceOf(x.again(), 1, 1), 1);
        x.cell(0, 1, 0, 0);
        C.due("two sides", fenceOf(x.again(), 1, 1), 2);
        C.due("between two CELLS of the CASE is none", fenceOf(x.again(), 1, 1, 1, 2), 3);
        x.takeNow(1, 2);
        x.choose(1, 1);
        x.rate(4, 0);
        x.make();
        x.enter();
        C.due(x, "TAKEN by an ORDER before", x.told(1, 0, FENCE), 1);
    }

    private static long fenceOf(Run x, int... cells) {
        x.takeNow(cells);
        return x.told(0, 0, FENCE);
    }

    // ---- BETTER and DUE

    /** A HOUSE on a CELL of one price; the CELL beside it, of another, is TAKEN. */
    private static Run besideTheHouse(int housePrice, int rate, int landPrice) {
        Run x = new Run();
        x.map(2, 1);
        x.field();
        x.cell(0, 0, 0, 0);
        x.cell(1, 0, 0, 1);
        x.house(0, 0, 0);
        x.price(0, 0, housePrice);
        x.price(1, 0, landPrice);
        x.rate(2, rate);
        return x;
    }

    private static void betterRoundedDown() {
        C.says("BETTER: the prices of MAIN times RATE 2 by 1000, rounded down");
        int[][] rows = {{999, 1, 0}, {1000, 1, 1}, {1999, 1, 1}, {1, 999, 0}, {1, 1000, 1}, {100000, 1000, 100000},
            {100000, 0, 0}, {3, 500, 1}};
        for (int[] row : rows) {
            Run x = besideTheHouse(row[0], row[1], 100000);
            x.takeNow(1, 0);
            C.told(x, 0, 0, 3, 100000, 0, 0, row[2], 100000 - row[2]);
        }
        Run both = strip(3, 3);
        both.rate(2, 500);
        both.takeNow(2, 0);
        C.due(both, "of both CELLS together", both.told(0, 0, BETTER), 3);
    }

    private static void betterAtMost() {
        C.says("but LAND, LOSS and FENCE together at most. DUE: LAND, LOSS, FENCE together, less BETTER.");
        for (int house = 9; house <= 11; house++) {
            Run x = besideTheHouse(house, 1000, 10);
            x.takeNow(1, 0);
            C.told(x, 0, 0, 3, 10, 0, 0, Math.min(house, 10), 10 - Math.min(house, 10));
        }
        for (int house = 14; house <= 16; house++) {
            Run x = besideTheHouse(house, 1000, 10);
            x.rate(1, 5);
            x.takeNow(1, 0);
            C.told(x, 0, 0, 3, 10, 0, 5, Math.min(house, 15), 15 - Math.min(house, 15));
        }
        // LAND 1, LOSS 1, FENCE 2: together 4.
        for (int main = 3; main <= 5; main++) {
            Run x = strip(main + 2, 1);
            x.house(0, 0, 0);
            x.rate(0, 1000);
            x.rate(1, 1);
            x.rate(2, 1000);
            x.takeNow(main, 0);
            C.told(x, 0, 0, 3, 1, 1, 2, Math.min(main, 4), 4 - Math.min(main, 4));
        }
    }

    private static void betterWithoutMain() {
        C.says("BETTER: the prices of MAIN");
        Run x = strip(3, 100);
        x.rate(2, 1000);
        x.rate(0, 1000);
        x.takeNow(0, 0, 1, 0, 2, 0);
        C.told(x, 0, 0, 3, 300, 0, 0, 0, 300);
        Run most = strip(5, 100);
        most.rate(2, 100);
        most.takeNow(1, 0);
        C.due(most, "without a HOUSE: of the three CELLS", most.told(0, 0, BETTER), 30);
        Run taken = strip(5, 100);
        taken.house(0, 1, 0);
        taken.rate(2, 100);
        taken.takeNow(1, 0);
        C.due(taken, "with the HOUSE TAKEN", taken.told(0, 0, BETTER), 30);
    }

    private static void dueOfNothing() {
        C.says("DUE: LAND, LOSS, FENCE together, less BETTER.");
        Run x = besideTheHouse(100, 1000, 10);
        x.right(0, TENANT, 1000);
        x.right(0, DEBT, 5);
        x.rate(3, 10000);
        x.takeNow(1, 0);
        C.due(x, x.told(0, 0, DUE), 0);
        C.due(x, x.gets(0, 0, 0), 0);
        C.due(x, x.gets(0, 0, 1), 0);
        C.due(x, x.told(0, 0, OWNER), 0);
        x.days(1000);
        C.told(x, 0, 0, 8, 0, 0, 0, 0);
        C.due(x, "a payment that nothing is taken of", x.pay(0, 0, 1), 0);
        C.due(x, x.undo(), 0);
    }

    // ---- RIGHTS

    /** A FIELD of two CELLS with two RIGHTS; the first CELL is TAKEN at a price, and DUE is that price. */
    private static Run withRights(int due, int kindA, int amountA, int kindB, int amountB) {
        Run x = strip(2, due);
        x.right(0, kindA, amountA);
        x.right(0, kindB, amountB);
        x.takeNow(0, 0);
        return x;
    }

    private static void shares(Run x, int o, long first, long second, long owner) {
        C.due(x, x.gets(o, 0, 0), first);
        C.due(x, x.gets(o, 0, 1), second);
        C.due(x, x.told(o, 0, OWNER), owner);
    }

    private static void tenantRoundedDown() {
        C.says("TENANT that many thousandths of DUE, rounded down");
        shares(withRights(999, TENANT, 1, TENANT, 2), 0, 0, 1, 998);
        shares(withRights(1000, TENANT, 1, TENANT, 2), 0, 1, 2, 997);
        shares(withRights(1, TENANT, 999, TENANT, 1000), 0, 0, 1, 0);
        shares(withRights(100000, TENANT, 0, TENANT, 999), 0, 0, 99900, 100);
        shares(withRights(100000, TENANT, 1000, TENANT, 1), 0, 100000, 0, 0);
        shares(withRights(1000, TENANT, 600, TENANT, 600), 0, 600, 400, 0);
        shares(withRights(1000, TENANT, 500, TENANT, 500), 0, 500, 500, 0);
        C.says("Of what is DUE each RIGHT gets in order");
        shares(withRights(1000, DEBT, 300, TENANT, 500), 0, 300, 500, 200);
        shares(withRights(1000, DEBT, 501, TENANT, 500), 0, 501, 499, 0);
    }

    private static void debtAsFarAsThereIs() {
        C.says("each as far as there is something left");
        shares(withRights(1000, DEBT, 999, DEBT, 0), 0, 999, 0, 1);
        shares(withRights(1000, DEBT, 1000, DEBT, 1), 0, 1000, 0, 0);
        shares(withRights(1000, DEBT, 1001, DEBT, 1), 0, 1000, 0, 0);
        shares(withRights(1000, DEBT, 1000000, TENANT, 1000), 0, 1000, 0, 0);
        shares(withRights(1000, TENANT, 1000, DEBT, 1000000), 0, 1000, 0, 0);
        shares(withRights(1000, DEBT, 999, DEBT, 1000000), 0, 999, 1, 0);
        shares(withRights(0, DEBT, 1000000, TENANT, 1000), 0, 0, 0, 0);
    }

    private static void debtLeftBehindEarlierCases() {
        C.says("DEBT its amount (what is left of it behind earlier CASES)");
        int[][] rows = {{999, 0}, {1000, 0}, {1001, 1}, {1999, 999}, {2000, 1000}, {2001, 1000}};
        for (int[] row : rows) {
            Run x = withRights(1000, DEBT, row[0], TENANT, 0);
            C.due("the first of " + row[0], x.gets(0, 0, 0), Math.min(row[0], 1000));
            x.takeNow(1, 0);
            shares(x, 1, row[1], 0, 1000 - row[1]);
        }
        Run two = withRights(1000, DEBT, 600, DEBT, 600);
        shares(two, 0, 600, 400, 0);
        two.takeNow(1, 0);
        shares(two, 1, 0, 200, 800);
        Run tenant = withRights(1000, TENANT, 600, DEBT, 500);
        tenant.takeNow(1, 0);
        C.due(tenant, "a TENANT gets of each CASE", tenant.gets(1, 0, 0), 600);
        C.due(tenant, tenant.gets(1, 0, 1), 100);
    }

    private static void ownerHasWhatIsLeft() {
        C.says("THE OWNER has what is left.");
        Run none = strip(2, 77);
        none.takeNow(0, 0);
        C.due(none, "no RIGHTS", none.told(0, 0, OWNER), 77);
        Run four = strip(2, 1000);
        four.right(0, TENANT, 100);
        four.right(0, DEBT, 100);
        four.right(0, TENANT, 200);
        four.right(0, DEBT, 599);
        four.takeNow(0, 0);
        long[] want = {100, 100, 200, 599};
        for (int r = 0; r < 4; r++) {
            C.due(four, four.gets(0, 0, r), want[r]);
        }
        C.due(four, four.told(0, 0, OWNER), 1);
        four.takeNow(1, 0);
        long[] then = {100, 0, 200, 0};
        for (int r = 0; r < 4; r++) {
            C.due(four, four.gets(1, 0, r), then[r]);
        }
        C.due(four, four.told(1, 0, OWNER), 700);
        C.says("THE OWNER all that is left then.");
        for (int debt = 76; debt <= 78; debt++) {
            Run x = withRights(77, DEBT, debt, TENANT, 0);
            C.due(x, x.told(0, 0, OWNER), Math.max(0, 77 - debt));
        }
    }

    // ---- the greatest sums

    private static void greatestSums() {
        C.says("all days since the last payment (or ENTRY) together");
        Run x = new Run();
        x.map(16, 16);
        x.field();
        for (int place = 0; place < 256; place++) {
            x.cell(place % 16, place / 16, 0, 3);
        }
        x.right(0, TENANT, 1000);
        x.price(3, 0, 100000);
        x.rate(0, 1000);
        x.rate(1, 100000);
        x.rate(3, 10000);
        x.rate(4, 0);
        for (int place = 0; place < 256; place++) {
            if ((place % 16 + place / 16) % 2 == 1) {
                x.line(place % 16, place / 16, true);
            }
        }
        x.make();
        x.enter();
        C.due(x, x.pieces(0), 128);
        C.told(x, 0, 0, 3, 12800000, 12700000, 48000000, 0, 73500000);
        C.due(x, x.gets(0, 0, 0), 73500000);
        for (int i = 0; i < 10; i++) {
            x.days(1000);
        }
        C.told(x, 0, 0, 8, 0, 73500000, 7350000000L, 0);
        C.due(x, x.pay(0, 0, 1000000000), 1000000000);
        C.told(x, 0, 0, 8, 0, 73500000, 6350000000L, 1000000000);
        for (int i = 0; i < 6; i++) {
            x.pay(0, 0, 1000000000);
        }
        C.due(x, x.pay(0, 0, 1000000000), 423500000);
        C.told(x, 0, 0, 8, 73500000, 0, 0, 7350000000L);
        C.due(x, x.undo(), 7423500000L);
    }
}
