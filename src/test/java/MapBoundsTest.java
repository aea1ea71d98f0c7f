/** Promises 1 to 7 at their bounds: each sentence that names one has a test of its own. */
public final class MapBoundsTest {
    private static final Checks C = new Checks("MapBoundsTest");
    private static final int NONE = LandTaken.NONE, UNKNOWN = LandTaken.UNKNOWN, OUTSIDE = LandTaken.OUTSIDE,
            STATE = LandTaken.STATE, FULL = LandTaken.FULL, MIN = Checks.MIN, MAX = Checks.MAX;
    private static final int DEBT = 1, TENANT = 2;

    public static void main(String[] args) {
        newObject();
        mapFromOneToSixteen();
        mapOutside();
        columnAndRow();
        mapAnew();
        mapAnewIsFullAgain();
        edgesOfTheLargestMap();
        fieldsTwelveAtMost();
        fieldWithoutCells();
        fieldFullAndShut();
        cellAtTheEdges();
        cellOfNoneAtFirst();
        cellFieldOrNone();
        cellSoil();
        cellReasons();
        cellNoLane();
        cellHouse();
        laneAtTheEdges();
        laneOfNoField();
        laneHouse();
        houseNoneAtFirst();
        houseOnItsField();
        houseReasons();
        rightAmounts();
        rightKinds();
        rightOfFields();
        rightsFourAtMost();
        rightReasons();
        openUntilAnOrderIsMade();
        shutOnceAnOrderWasMade();
        C.end();
    }

    // ---- promise 1

    private static void newObject() {
        C.says("A MAP of one CELL; nothing else.");
        Run x = new Run();
        int[] looks = {NONE, 0, 0, 0, 0};
        for (int what = 0; what < 5; what++) {
            C.due(x, x.look(0, 0, what), looks[what]);
        }
        for (int bad : Checks.beyond(0, 0)) {
            C.due(x, x.look(bad, 0, 0), UNKNOWN);
            C.due(x, x.look(0, bad, 0), UNKNOWN);
        }
        for (int what = 0; what < 8; what++) {
            C.due(x, x.count(what), 0);
        }
        for (int soil = 0; soil < 4; soil++) {
            C.due(x, x.costs(soil, 0), 0);
            C.due(x, x.costs(soil, 10000), 0);
        }
        C.refused(x, UNKNOWN, () -> x.pieces(0));
        C.refused(x, UNKNOWN, () -> x.piece(0, 0, 0));
        C.refused(x, UNKNOWN, () -> x.told(0, 0, 0));
        C.refused(x, UNKNOWN, () -> x.gets(0, 0, 0));
        C.refused(x, UNKNOWN, () -> x.pay(0, 0, 1));
        C.refused(x, UNKNOWN, () -> x.right(0, DEBT, 0));
        C.refused(x, UNKNOWN, () -> x.house(0, 0, 0));
        C.refused(x, OUTSIDE, x::make);
        C.refused(x, STATE, () -> x.object(0));
        C.refused(x, STATE, () -> x.hear(0, true));
        C.refused(x, STATE, x::enter);
        C.refused(x, STATE, x::undo);
        C.due(x, x.line(0, 0, false), 0);
    }

    // ---- promise 2

    private static void mapFromOneToSixteen() {
        C.says("THE MAP has W by H CELLS (1 to 16 each)");
        for (int w = 1; w <= 16; w++) {
            Run x = new Run();
            for (int h = 1; h <= 16; h++) {
                C.due(x, x.map(w, h), w * h);
                C.due(x, x.look(w - 1, h - 1, 0), NONE);
                C.due(x, x.look(w, h - 1, 0), UNKNOWN);
                C.due(x, x.look(w - 1, h, 0), UNKNOWN);
                C.due(x, x.look(-1, h - 1, 0), UNKNOWN);
                C.due(x, x.look(w - 1, -1, 0), UNKNOWN);
            }
        }
    }

    private static void mapOutside() {
        C.says("how many CELLS. OUTSIDE; STATE.");
        Run x = Stage.NONE_MADE.run();
        for (int bad : Checks.beyond(1, 16)) {
            C.refused(x, OUTSIDE, () -> x.map(bad, 16));
            C.refused(x, OUTSIDE, () -> x.map(1, bad));
            C.refused(x, OUTSIDE, () -> x.map(bad, bad));
        }
        // Products that are 1, or come to 0 or 256 when they wrap around.
        C.refused(x, OUTSIDE, () -> x.map(-1, -1));
        C.refused(x, OUTSIDE, () -> x.map(65536, 65536));
        C.refused(x, OUTSIDE, () -> x.map(1 << 24, (1 << 8) + 1));
        C.refused(x, OUTSIDE, () -> x.map(32, 8));
    }

    private static void columnAndRow() {
        C.says("(x, y) being column x, row y");
        Run x = new Run();
        x.map(16, 2);
        C.due(x, x.cell(15, 1, NONE, 3), 1);
        C.due(x, x.look(15, 1, 1), 3);
        C.due(x, x.look(1, 15, 1), UNKNOWN);
        x.map(2, 16);
        C.due(x, x.cell(1, 15, NONE, 2), 1);
        C.due(x, x.look(1, 15, 1), 2);
        C.due(x, x.look(15, 1, 1), UNKNOWN);
        C.due(x, x.look(-1, 1, 1), UNKNOWN);
        C.due(x, x.look(2, 14, 1), UNKNOWN);
    }

    private static void mapAnew() {
        C.says("THE MAP becomes a new one, all CELLS of no FIELD, SOIL 0, no LANES; no FIELDS, the LINE is empty");
        Run x = Stage.NONE_MADE.run();
        C.due(x, x.map(4, 3), 12);
        for (int place = 0; place < 12; place++) {
            C.due(x, x.look(place % 4, place / 4, 0), NONE);
            for (int what = 1; what < 5; what++) {
                C.due(x, x.look(place % 4, place / 4, what), 0);
            }
        }
        C.due(x, x.count(0), 0);
        C.due(x, x.count(2), 0);
        C.due(x, x.pieces(0), UNKNOWN);
        C.due(x, "THE DAY stays", x.count(5), 2);
        C.due(x, "PRICES stay", x.costs(0, 0), 100);
        C.due(x, "RATES stay", x.rate(4, 5), 5);
        x.field();
        x.cell(0, 0, 0, 0);
        C.due(x, x.right(0, DEBT, 1), 1);
        Run y = new Run();
        y.map(4, 3);
        y.days(2);
        int[] rates = {250, 7, 50, 900, 5};
        for (int k = 0; k < 5; k++) {
            y.rate(k, rates[k]);
        }
        y.field();
        y.cell(0, 0, 0, 0);
        y.right(0, DEBT, 1);
        C.due("no HOUSE and no RIGHTS of an earlier FIELD: digest", x.digest(), y.digest());
        x.takeNow(0, 0);
        C.due(x, x.gets(0, 0, 0), 1);
        C.due(x, "THE OWNER has what an earlier FIELD's RIGHTS would get", x.told(0, 0, 13), 99);
    }

    private static void mapAnewIsFullAgain() {
        C.says("THE MAP becomes a new one");
        Run x = new Run();
        x.map(16, 16);
        x.field();
        for (int at = 0; at < 16; at++) {
            x.cell(at, 15, 0, 3);
            x.lane(15, at);
            x.line(at, at, true);
        }
        C.due(x, x.map(1, 1), 1);
        C.due(x, x.count(2), 0);
        C.due(x, x.map(16, 16), 256);
        Run y = new Run();
        y.map(16, 16);
        C.due("what the larger map had is gone: digest", x.digest(), y.digest());
    }

    private static void edgesOfTheLargestMap() {
        C.says("W by H CELLS (1 to 16 each), (x, y) being column x, row y");
        Run x = new Run();
        x.map(16, 16);
        for (int f = 0; f < 12; f++) {
            x.field();
        }
        x.cell(0, 1, 11, 0);
        x.cell(15, 15, 11, 0);
        C.refused(x, UNKNOWN, () -> x.house(12, 0, 1));
        // Taken as 16 y and x, each of these would be a cell of the map.
        int[] beside = {16, 0, -1, 2, 16, 14, 0, 16, 15, -1, -16, 2, 32, -1};
        for (int i = 0; i < beside.length; i += 2) {
            int cx = beside[i];
            int cy = beside[i + 1];
            C.refused(x, UNKNOWN, () -> x.cell(cx, cy, 11, 1));
            C.refused(x, UNKNOWN, () -> x.lane(cx, cy));
            C.refused(x, UNKNOWN, () -> x.house(11, cx, cy));
            C.refused(x, UNKNOWN, () -> x.line(cx, cy, true));
            C.refused(x, UNKNOWN, () -> x.look(cx, cy, 0));
        }
        C.due(x, x.house(11, 15, 15), 1);
        C.due(x, x.house(11, 0, 1), 1);
        C.due(x, x.line(15, 15, true), 0);
        C.due(x, x.lane(15, 15), 1);
        C.due(x, x.cell(15, 15, 0, 3), 1);
        C.due(x, x.look(15, 15, 1), 3);
    }

    // ---- promise 3

    private static void fieldsTwelveAtMost() {
        C.says("FIELDS (12 at most, numbered as they come)");
        Run x = new Run();
        for (int f = 0; f < 12; f++) {
            C.due(x, x.field(), f);
            C.due(x, x.count(0), f + 1);
            C.due(x, x.pieces(f), 0);
            C.due(x, x.pieces(f + 1), UNKNOWN);
        }
        C.refused(x, FULL, x::field);
        C.due(x, x.cell(0, 0, 11, 0), 1);
        C.due(x, x.pieces(11), 1);
        C.due(x, x.house(11, 0, 0), 1);
        C.due(x, x.right(11, TENANT, 10), 1);
        C.refused(x, FULL, x::field);
        x.map(1, 1);
        for (int f = 0; f < 12; f++) {
            C.due(x, x.field(), f);
        }
        C.refused(x, FULL, x::field);
    }

    private static void fieldWithoutCells() {
        C.says("A FIELD without CELLS: its number.");
        Run x = Stage.NONE_MADE.run();
        C.due(x, x.field(), 2);
        C.due(x, x.pieces(2), 0);
        C.refused(x, UNKNOWN, () -> x.piece(2, 0, 0));
        C.due(x, x.right(2, TENANT, 0), 1);
        C.due("it is not NOTICED: make()", x.make(), 2);
    }

    private static void fieldFullAndShut() {
        C.says("A FIELD without CELLS: its number. STATE; FULL.");
        Run x = new Run();
        for (int f = 0; f < 12; f++) {
            x.field();
        }
        x.cell(0, 0, 0, 0);
        C.refused(x, FULL, x::field);
        x.takeNow(0, 0);
        C.refused(x, STATE, x::field);
    }

    // ---- promise 4

    private static void cellAtTheEdges() {
        C.says("UNKNOWN: the CELL, f; OUTSIDE: soil; STATE.");
        Run x = Stage.NONE_MADE.run();
        for (int bad : Checks.beyond(0, 3)) {
            for (int y = 0; y < 3; y++) {
                int row = y;
                C.refused(x, UNKNOWN, () -> x.cell(bad, row, 0, 0));
            }
        }
        for (int bad : Checks.beyond(0, 2)) {
            C.refused(x, UNKNOWN, () -> x.cell(0, bad, 0, 0));
            C.refused(x, UNKNOWN, () -> x.cell(3, bad, 0, 0));
        }
        int[] corners = {0, 0, 3, 0, 0, 2, 3, 2};
        for (int i = 0; i < 8; i += 2) {
            C.due(x, x.cell(corners[i], corners[i + 1], 1, 3), 1);
            C.due(x, x.look(corners[i], corners[i + 1], 0), 1);
            C.due(x, x.look(corners[i], corners[i + 1], 1), 3);
        }
        C.due(x, "its neighbour stays", x.look(2, 0, 0), 0);
    }

    private static void cellOfNoneAtFirst() {
        C.says("A CELL is of a FIELD or of none (at first)");
        Run x = new Run();
        x.map(2, 2);
        x.field();
        for (int place = 0; place < 4; place++) {
            int cx = place % 2;
            int cy = place / 2;
            C.due(x, x.look(cx, cy, 0), NONE);
            C.refused(x, OUTSIDE, () -> x.house(0, cx, cy));
        }
        C.due(x, "none became of the new FIELD", x.pieces(0), 0);
    }

    private static void cellFieldOrNone() {
        C.says("A CELL is of FIELD f (or NONE), of a SOIL, and no LANE: 1.");
        Run x = new Run();
        C.refused(x, UNKNOWN, () -> x.cell(0, 0, 0, 0));
        C.due(x, x.cell(0, 0, NONE, 1), 1);
        x.field();
        C.due(x, x.cell(0, 0, 0, 2), 1);
        C.due(x, x.look(0, 0, 0), 0);
        C.refused(x, UNKNOWN, () -> x.cell(0, 0, 1, 0));
        C.refused(x, UNKNOWN, () -> x.cell(0, 0, -2, 0));
        C.due(x, x.cell(0, 0, NONE, 3), 1);
        C.due(x, x.look(0, 0, 0), NONE);
        C.due(x, x.look(0, 0, 1), 3);
        C.due(x, x.pieces(0), 0);
        for (int f = 1; f < 12; f++) {
            x.field();
        }
        C.due(x, x.cell(0, 0, 11, 0), 1);
        C.refused(x, UNKNOWN, () -> x.cell(0, 0, 12, 0));
        C.refused(x, UNKNOWN, () -> x.cell(0, 0, MAX, 0));
        C.refused(x, UNKNOWN, () -> x.cell(0, 0, MIN, 0));
        C.due(x, x.look(0, 0, 0), 11);
    }

    private static void cellSoil() {
        C.says("has a SOIL 0 to 3 (0 at first)");
        Run x = new Run();
        x.field();
        C.due(x, x.look(0, 0, 1), 0);
        for (int soil = 0; soil < 4; soil++) {
            C.due(x, x.cell(0, 0, 0, soil), 1);
            C.due(x, x.look(0, 0, 1), soil);
        }
        for (int bad : Checks.beyond(0, 3)) {
            C.refused(x, OUTSIDE, () -> x.cell(0, 0, 0, bad));
            C.refused(x, OUTSIDE, () -> x.cell(0, 0, NONE, bad));
        }
    }

    private static void cellReasons() {
        C.says("Refusals, of several the first as told by each call: UNKNOWN (a number names nothing), "
                + "OUTSIDE (it is not as told), STATE (as told), FULL; they change nothing.");
        for (Stage stage : new Stage[] {Stage.NONE_MADE, Stage.DONE}) {
            Run x = stage.run();
            C.refused(x, UNKNOWN, () -> x.cell(4, 0, 2, 4));
            C.refused(x, UNKNOWN, () -> x.cell(4, 0, 0, 4));
            C.refused(x, UNKNOWN, () -> x.cell(0, 3, 2, 0));
            C.refused(x, UNKNOWN, () -> x.cell(0, 0, 2, 4));
            C.refused(x, UNKNOWN, () -> x.cell(0, 0, -2, -1));
            C.refused(x, OUTSIDE, () -> x.cell(0, 0, 0, 4));
            C.refused(x, OUTSIDE, () -> x.cell(1, 0, NONE, -1));
        }
    }

    private static void cellNoLane() {
        C.says("is a LANE or not (a LANE is of no FIELD)");
        Run x = Stage.NONE_MADE.run();
        C.due(x, x.piece(1, 0, 3), 1);
        C.due(x, x.cell(0, 2, NONE, 0), 1);
        C.due(x, x.look(0, 2, 2), 0);
        C.due(x, x.cell(1, 2, 1, 0), 1);
        C.due(x, x.look(1, 2, 2), 0);
        C.due(x, x.look(1, 2, 0), 1);
        C.due(x, "it stays in the LINE", x.look(1, 2, 4), 1);
        C.due(x, "no LANE is left", x.piece(1, 0, 3), 0);
    }

    private static void cellHouse() {
        C.says("(A HOUSE that stood there is none any more.)");
        int[] fields = {0, 1, NONE};
        for (int f : fields) {
            Run x = Stage.NONE_MADE.run();
            x.cell(2, 0, NONE, 0);
            C.due(x, "the PIECE with the HOUSE", x.piece(0, 0, 2), 1);
            x.house(0, 3, 0);
            C.due(x, x.piece(0, 1, 2), 1);
            C.due(x, x.cell(0, 0, f, 0), 1);
            C.due(x, "where no HOUSE stood none goes", x.piece(0, 1, 2), 1);
            C.due(x, x.cell(3, 0, f, 0), 1);
            Run y = Stage.NONE_MADE.run();
            y.cell(2, 0, NONE, 0);
            y.cell(0, 0, f, 0);
            y.cell(3, 0, f, 0);
            C.due("as if no HOUSE had stood there: digest", x.digest(), y.digest());
        }
        Run x = Stage.NONE_MADE.run();
        x.house(1, 2, 1);
        long before = x.digest();
        C.due(x, x.cell(2, 1, 0, 1), 1);
        C.due(x, x.cell(2, 1, 1, 1), 1);
        C.holds("it does not come back with the CELL", x.digest() != before);
        C.due(x, x.house(1, 2, 1), 1);
        C.due("until it is told again: digest", x.digest(), before);
    }

    // ---- promise 5

    private static void laneAtTheEdges() {
        C.says("A CELL becomes a LANE: 1. UNKNOWN; STATE.");
        for (Stage stage : new Stage[] {Stage.NONE_MADE, Stage.MADE}) {
            Run x = stage.run();
            for (int bad : Checks.beyond(0, 3)) {
                C.refused(x, UNKNOWN, () -> x.lane(bad, 1));
            }
            for (int bad : Checks.beyond(0, 2)) {
                C.refused(x, UNKNOWN, () -> x.lane(1, bad));
            }
        }
        Run x = Stage.NONE_MADE.run();
        int[] corners = {0, 0, 3, 0, 0, 2, 3, 2};
        for (int i = 0; i < 8; i += 2) {
            C.due(x, x.lane(corners[i], corners[i + 1]), 1);
            C.due(x, x.look(corners[i], corners[i + 1], 2), 1);
        }
        C.due(x, "its neighbour is none", x.look(1, 0, 2), 0);
        C.due(x, "a LANE already", x.lane(0, 0), 1);
        C.due(x, x.look(0, 0, 2), 1);
    }

    private static void laneOfNoField() {
        C.says("(a LANE is of no FIELD)");
        Run x = Stage.NONE_MADE.run();
        C.due(x, x.lane(1, 1), 1);
        C.due(x, x.look(1, 1, 0), NONE);
        C.due(x, "its SOIL stays", x.look(1, 1, 1), 1);
        C.due(x, "it stays in the LINE", x.look(1, 1, 4), 1);
        C.due(x, x.pieces(1), 2);
        C.refused(x, OUTSIDE, () -> x.house(1, 1, 1));
    }

    private static void laneHouse() {
        C.says("A CELL becomes a LANE: 1. UNKNOWN; STATE. (Likewise.)");
        Run x = Stage.NONE_MADE.run();
        x.lane(0, 0);
        Run y = Stage.NONE_MADE.run();
        y.cell(0, 0, 0, 0);
        y.lane(0, 0);
        C.due("no HOUSE stands on a LANE: digest", x.digest(), y.digest());
        Run z = Stage.NONE_MADE.run();
        z.lane(3, 0);
        z.lane(1, 0);
        C.due(z, "the HOUSE on another CELL stays", z.piece(0, 0, 2), 1);
        z.cell(3, 0, 0, 0);
        C.due(z, "though another PIECE is larger", z.piece(0, 1, 0), 2);
        C.due(z, z.piece(0, 1, 2), 0);
    }

    // ---- promise 6

    private static void houseNoneAtFirst() {
        C.says("may have a HOUSE (a CELL of them, none at first)");
        Run x = new Run();
        x.map(3, 1);
        x.field();
        x.cell(0, 0, 0, 0);
        x.cell(2, 0, 0, 0);
        long before = x.digest();
        C.due(x, "of like ones the first is MAIN", x.piece(0, 0, 2), 1);
        C.due(x, x.house(0, 0, 0), 1);
        C.holds("a HOUSE on the first CELL is told", x.digest() != before);
        C.due(x, x.house(0, 2, 0), 1);
        C.due(x, x.piece(0, 1, 2), 1);
        x.cell(2, 0, 0, 0);
        C.due("none again: digest", x.digest(), before);
    }

    private static void houseOnItsField() {
        C.says("THE HOUSE of a FIELD stands on a CELL of it: 1.");
        Run x = Stage.NONE_MADE.run();
        long first = x.digest();
        C.due(x, x.house(0, 3, 0), 1);
        C.holds("it stands elsewhere", x.digest() != first);
        C.due(x, x.house(0, 0, 0), 1);
        C.due("a FIELD has one HOUSE: digest", x.digest(), first);
        C.due(x, "where it stands already", x.house(0, 0, 0), 1);
        C.due("digest", x.digest(), first);
        C.refused(x, OUTSIDE, () -> x.house(0, 0, 1));
        C.refused(x, OUTSIDE, () -> x.house(1, 0, 0));
        C.refused(x, OUTSIDE, () -> x.house(0, 3, 1));
        C.refused(x, OUTSIDE, () -> x.house(1, 0, 2));
        x.field();
        C.refused(x, OUTSIDE, () -> x.house(2, 0, 0));
        C.due(x, x.cell(0, 0, 2, 0), 1);
        C.refused(x, OUTSIDE, () -> x.house(0, 0, 0));
        C.due(x, x.house(2, 0, 0), 1);
    }

    private static void houseReasons() {
        C.says("UNKNOWN: f, the CELL; OUTSIDE: the CELL is of another FIELD, or of none; STATE.");
        for (Stage stage : new Stage[] {Stage.NONE_MADE, Stage.DONE}) {
            Run x = stage.run();
            for (int bad : Checks.beyond(0, 1)) {
                C.refused(x, UNKNOWN, () -> x.house(bad, 0, 0));
                C.refused(x, UNKNOWN, () -> x.house(bad, 3, 1));
            }
            for (int bad : Checks.beyond(0, 3)) {
                C.refused(x, UNKNOWN, () -> x.house(0, bad, 0));
                C.refused(x, UNKNOWN, () -> x.house(0, bad, 1));
            }
            for (int bad : Checks.beyond(0, 2)) {
                C.refused(x, UNKNOWN, () -> x.house(0, 0, bad));
            }
            C.refused(x, UNKNOWN, () -> x.house(2, 4, 3));
            C.refused(x, OUTSIDE, () -> x.house(0, 0, 1));
            C.refused(x, OUTSIDE, () -> x.house(0, 3, 1));
        }
    }

    // ---- promise 7

    private static void rightAmounts() {
        C.says("kind 1 DEBT (an amount, 0 to 1000000), 2 TENANT (thousandths, 0 to 1000)");
        Run x = new Run();
        x.field();
        for (int bad : Checks.beyond(0, 1000000)) {
            C.refused(x, OUTSIDE, () -> x.right(0, DEBT, bad));
        }
        for (int bad : Checks.beyond(0, 1000)) {
            C.refused(x, OUTSIDE, () -> x.right(0, TENANT, bad));
        }
        C.refused(x, OUTSIDE, () -> x.right(0, TENANT, 1000000));
        C.due(x, x.right(0, DEBT, 0), 1);
        C.due(x, x.right(0, DEBT, 1000000), 2);
        C.due(x, x.right(0, TENANT, 0), 3);
        C.due(x, x.right(0, TENANT, 1000), 4);
        x.field();
        C.due(x, "a DEBT above 1000", x.right(1, DEBT, 1001), 1);
    }

    private static void rightKinds() {
        C.says("UNKNOWN; OUTSIDE: kind is not 1, 2, amount; STATE; FULL.");
        Run x = Stage.NONE_MADE.run();
        for (int bad : new int[] {0, 3, -1, -2, MIN, MAX}) {
            C.refused(x, OUTSIDE, () -> x.right(0, bad, 0));
            C.refused(x, OUTSIDE, () -> x.right(0, bad, 1000001));
        }
    }

    private static void rightOfFields() {
        C.says("A RIGHT of a FIELD comes behind the others: how many.");
        Run x = new Run();
        C.refused(x, UNKNOWN, () -> x.right(0, DEBT, 1));
        for (int f = 0; f < 12; f++) {
            x.field();
        }
        for (int bad : Checks.beyond(0, 11)) {
            C.refused(x, UNKNOWN, () -> x.right(bad, DEBT, 1));
        }
        for (int f = 0; f < 12; f += 11) {
            C.due(x, x.right(f, DEBT, 1), 1);
            C.due(x, x.right(f, TENANT, 2), 2);
        }
        Run y = new Run();
        for (int f = 0; f < 12; f++) {
            y.field();
        }
        for (int f = 0; f < 12; f += 11) {
            y.right(f, TENANT, 2);
            y.right(f, DEBT, 1);
        }
        C.holds("they stand in order", x.digest() != y.digest());
    }

    private static void rightsFourAtMost() {
        C.says("RIGHTS (4 at most, in order)");
        Run x = new Run();
        x.map(12, 1);
        x.price(0, 0, 1000);
        for (int f = 0; f < 12; f++) {
            x.field();
            x.cell(f, 0, f, 0);
        }
        for (int f = 0; f < 12; f++) {
            int one = f;
            for (int r = 1; r <= 4; r++) {
                C.due(x, x.right(f, 2 - r % 2, 10 + r), r);
            }
            C.refused(x, FULL, () -> x.right(one, DEBT, 5));
            C.refused(x, FULL, () -> x.right(one, TENANT, 5));
        }
    }

    private static void rightReasons() {
        C.says("they change nothing");
        Run x = new Run();
        x.field();
        x.cell(0, 0, 0, 0);
        x.price(0, 0, 100);
        for (int r = 0; r < 4; r++) {
            x.right(0, DEBT, 1);
        }
        C.refused(x, UNKNOWN, () -> x.right(1, 3, 1));
        C.refused(x, UNKNOWN, () -> x.right(NONE, DEBT, -1));
        C.refused(x, OUTSIDE, () -> x.right(0, 3, 1));
        C.refused(x, OUTSIDE, () -> x.right(0, TENANT, 1001));
        C.refused(x, FULL, () -> x.right(0, TENANT, 1000));
        x.takeNow(0, 0);
        C.refused(x, UNKNOWN, () -> x.right(1, 3, 1));
        C.refused(x, OUTSIDE, () -> x.right(0, 3, 1));
        C.refused(x, OUTSIDE, () -> x.right(0, DEBT, 1000001));
        C.refused(x, STATE, () -> x.right(0, TENANT, 1000));
    }

    // ---- the map: STATE, once an ORDER was MADE

    private static void openUntilAnOrderIsMade() {
        C.says("---- the map: STATE, once an ORDER was MADE.");
        Run x = new Run();
        x.map(2, 1);
        x.line(1, 0, true);
        C.refused(x, OUTSIDE, x::make);
        x.days(40);
        C.due(x, "an ORDER that was refused shuts nothing", x.field(), 0);
        C.due(x, x.cell(1, 0, 0, 0), 1);
        C.due(x, x.lane(0, 0), 1);
        C.due(x, x.house(0, 1, 0), 1);
        C.due(x, x.right(0, DEBT, 1), 1);
        C.due("map(1, 1)", x.again().map(1, 1), 1);
        C.due(x, x.make(), 1);
        C.refused(x, STATE, () -> x.map(1, 1));
    }

    private static void shutOnceAnOrderWasMade() {
        C.says("STATE, once an ORDER was MADE");
        for (Stage stage : Stage.values()) {
            if (stage != Stage.NONE_MADE) {
                Run x = stage.run();
                C.refused(x, STATE, () -> x.map(4, 3));
                C.refused(x, STATE, () -> x.map(16, 16));
                C.refused(x, OUTSIDE, () -> x.map(0, 3));
                C.refused(x, OUTSIDE, () -> x.map(4, 17));
                C.refused(x, STATE, x::field);
                C.refused(x, STATE, () -> x.cell(0, 0, 0, 0));
                C.refused(x, STATE, () -> x.cell(3, 2, NONE, 0));
                C.refused(x, STATE, () -> x.lane(2, 2));
                C.refused(x, STATE, () -> x.house(0, 0, 0));
                C.refused(x, STATE, () -> x.house(1, 2, 1));
                C.refused(x, STATE, () -> x.right(0, DEBT, 1));
            }
        }
    }
}
