/** Promises 1 to 7: a new object, map, field, cell, lane, house, right. */
public final class MapTest {
    private static final Checks C = new Checks("MapTest");
    private static final int NONE = LandTaken.NONE, UNKNOWN = LandTaken.UNKNOWN, OUTSIDE = LandTaken.OUTSIDE,
            STATE = LandTaken.STATE, FULL = LandTaken.FULL;

    public static void main(String[] args) {
        newObject();
        map();
        field();
        cell();
        lane();
        house();
        right();
        afterAnOrder();
        C.end();
    }

    private static void newObject() {
        Run x = new Run();
        C.due("new: look(0, 0, 0)", x.look(0, 0, 0), NONE);
        for (int what = 1; what < 5; what++) {
            C.due("new: look(0, 0, " + what + ")", x.look(0, 0, what), 0);
        }
        C.due("new: look(1, 0, 0)", x.look(1, 0, 0), UNKNOWN);
        C.due("new: look(0, 1, 0)", x.look(0, 1, 0), UNKNOWN);
        for (int what = 0; what < 8; what++) {
            C.due("new: count(" + what + ")", x.count(what), 0);
        }
        for (int soil = 0; soil < 4; soil++) {
            C.due("new: costs", x.costs(soil, 10000), 0);
        }
        C.due("new: pieces(0)", x.pieces(0), UNKNOWN);
        C.due("new: told(0, 0, 0)", x.told(0, 0, 0), UNKNOWN);
        C.due("new: undo()", x.undo(), STATE);
        for (int k = 0; k < 5; k++) {
            C.due("new: rate(" + k + ", 0)", x.rate(k, 0), k == 4 ? 28 : 0);
        }
    }

    private static void map() {
        Run x = new Run();
        C.due("map(16, 16)", x.map(16, 16), 256);
        C.due("map(1, 16)", x.map(1, 16), 16);
        C.due("map(3, 2)", x.map(3, 2), 6);
        C.due("look(2, 1, 0)", x.look(2, 1, 0), NONE);
        C.due("look(3, 0, 0)", x.look(3, 0, 0), UNKNOWN);
        C.due("look(0, 2, 0)", x.look(0, 2, 0), UNKNOWN);
        x.field();
        x.cell(0, 0, 0, 3);
        x.cell(1, 1, 0, 2);
        x.house(0, 1, 1);
        x.right(0, 1, 7);
        x.lane(2, 1);
        x.line(0, 0, true);
        x.price(3, 5, 9);
        x.rate(1, 4);
        x.days(2);
        for (int[] wh : new int[][] {{0, 1}, {1, 0}, {17, 1}, {1, 17}, {-1, 3}, {3, Integer.MIN_VALUE},
            {65536, 65536}, {Integer.MAX_VALUE, 2}}) {
            C.refused(x, "map(" + wh[0] + ", " + wh[1] + ")", OUTSIDE, () -> x.map(wh[0], wh[1]));
        }
        C.due("map(3, 2) again", x.map(3, 2), 6);
        for (int place = 0; place < 6; place++) {
            C.due("map anew: FIELD", x.look(place % 3, place / 3, 0), NONE);
            for (int what = 1; what < 5; what++) {
                C.due("map anew: look " + what, x.look(place % 3, place / 3, what), 0);
            }
        }
        C.due("map anew: FIELDS", x.count(0), 0);
        C.due("map anew: LINE", x.count(2), 0);
        C.due("map anew: prices stay", x.costs(3, 5), 9);
        C.due("map anew: rates stay", x.rate(1, 4), 4);
        C.due("map anew: THE DAY stays", x.count(5), 2);
        C.due("map anew: field()", x.field(), 0);
        x.cell(0, 0, 0, 0);
        C.due("map anew: no RIGHTS of an earlier FIELD", x.right(0, 2, 1), 1);
        Run y = new Run();
        y.map(3, 2);
        y.field();
        y.cell(0, 0, 0, 0);
        y.right(0, 2, 1);
        y.rate(1, 4);
        y.days(2);
        C.due("map anew: no HOUSE of an earlier FIELD", x.digest(), y.digest());
    }

    private static void field() {
        Run x = new Run();
        for (int f = 0; f < 12; f++) {
            C.due("field()", x.field(), f);
            C.due("count(0)", x.count(0), f + 1);
            C.due("pieces of a new FIELD", x.pieces(f), 0);
        }
        C.refused(x, "13th field()", FULL, x::field);
        C.due("FIELD 11 takes a RIGHT", x.right(11, 2, 5), 1);
        x.cell(0, 0, 11, 0);
        x.takeNow(0, 0);
        C.refused(x, "field() with 12, once an ORDER was MADE", STATE, x::field);
    }

    private static void cell() {
        Run x = new Run();
        x.map(3, 2);
        x.field();
        x.field();
        C.due("cell", x.cell(2, 1, 1, 3), 1);
        C.due("cell: FIELD", x.look(2, 1, 0), 1);
        C.due("cell: SOIL", x.look(2, 1, 1), 3);
        C.due("cell: another one", x.look(1, 1, 0), NONE);
        C.due("cell of NONE", x.cell(2, 1, NONE, 2), 1);
        C.due("cell of NONE: FIELD", x.look(2, 1, 0), NONE);
        C.due("cell of NONE: SOIL", x.look(2, 1, 1), 2);
        x.lane(2, 1);
        x.line(2, 1, true);
        C.due("cell on a LANE", x.cell(2, 1, 0, 0), 1);
        C.due("cell on a LANE: no LANE", x.look(2, 1, 2), 0);
        C.due("cell: the LINE stays", x.look(2, 1, 4), 1);
        x.house(0, 2, 1);
        C.refused(x, "cell(3, 0, 0, 0)", UNKNOWN, () -> x.cell(3, 0, 0, 0));
        C.refused(x, "cell(0, 2, 0, 0)", UNKNOWN, () -> x.cell(0, 2, 0, 0));
        C.refused(x, "cell(-1, 0, 0, 0)", UNKNOWN, () -> x.cell(-1, 0, 0, 0));
        C.refused(x, "cell(0, -1, 0, 0)", UNKNOWN, () -> x.cell(0, -1, 0, 0));
        C.refused(x, "cell(2, 1, 2, 0)", UNKNOWN, () -> x.cell(2, 1, 2, 0));
        C.refused(x, "cell(2, 1, -2, 0)", UNKNOWN, () -> x.cell(2, 1, -2, 0));
        C.refused(x, "cell(2, 1, 2, 9): UNKNOWN first", UNKNOWN, () -> x.cell(2, 1, 2, 9));
        C.refused(x, "cell(2, 1, 0, 4)", OUTSIDE, () -> x.cell(2, 1, 0, 4));
        C.refused(x, "cell(2, 1, 0, -1)", OUTSIDE, () -> x.cell(2, 1, 0, -1));
        C.due("the HOUSE stands", houseIn(x), 16 + 2);
        x.cell(2, 1, 0, 0);
        C.due("the HOUSE is none any more, though the CELL is of the same FIELD", houseIn(x), NONE);
        x.cell(1, 1, 0, 0);
        x.house(0, 1, 1);
        x.cell(2, 1, 1, 0);
        C.due("the HOUSE on another CELL stays", houseIn(x), 16 + 1);
    }

    /** Where the HOUSE of FIELD 0 stands, found out by the digest: an object like it with that house tells the same. */
    private static int houseIn(Run x) {
        long want = x.again().digest();
        for (int place = NONE; place < 256; place++) {
            Run y = copyOfMap(x.again());
            if (place == NONE || y.house(0, place % 16, place / 16) == 1) {
                if (y.digest() == want) {
                    return place;
                }
            }
        }
        return -2;
    }

    private static Run copyOfMap(Run x) {
        int w = 0;
        int h = 0;
        while (x.look(w, 0, 0) != UNKNOWN) {
            w++;
        }
        while (x.look(0, h, 0) != UNKNOWN) {
            h++;
        }
        Run y = new Run();
        y.map(w, h);
        for (int f = 0; f < x.count(0); f++) {
            y.field();
        }
        for (int place = 0; place < w * h; place++) {
            int cx = place % w;
            int cy = place / w;
            y.cell(cx, cy, x.look(cx, cy, 0), x.look(cx, cy, 1));
            if (x.look(cx, cy, 2) == 1) {
                y.lane(cx, cy);
            }
            y.line(cx, cy, x.look(cx, cy, 4) == 1);
        }
        return y;
    }

    private static void lane() {
        Run x = new Run();
        x.map(2, 2);
        x.field();
        x.cell(1, 1, 0, 2);
        x.house(0, 1, 1);
        C.refused(x, "lane(2, 0)", UNKNOWN, () -> x.lane(2, 0));
        C.refused(x, "lane(0, 2)", UNKNOWN, () -> x.lane(0, 2));
        C.refused(x, "lane(-1, 0)", UNKNOWN, () -> x.lane(-1, 0));
        C.due("lane", x.lane(1, 1), 1);
        C.due("lane: LANE", x.look(1, 1, 2), 1);
        C.due("lane: of no FIELD", x.look(1, 1, 0), NONE);
        C.due("lane: the SOIL stays", x.look(1, 1, 1), 2);
        C.due("lane: the HOUSE is none any more", houseIn(x), NONE);
        C.due("lane again", x.lane(1, 1), 1);
        C.due("lane: pieces", x.pieces(0), 0);
    }

    private static void house() {
        Run x = new Run();
        x.map(3, 2);
        x.field();
        x.field();
        x.row(0, 0, 2, 0, 0);
        x.row(1, 0, 1, 1, 0);
        C.due("house", x.house(0, 2, 0), 1);
        C.due("house: its place", houseIn(x), 2);
        C.refused(x, "house(2, 0, 0)", UNKNOWN, () -> x.house(2, 0, 0));
        C.refused(x, "house(-1, 2, 1): NONE is no FIELD", UNKNOWN, () -> x.house(-1, 2, 1));
        C.refused(x, "house(0, 3, 0)", UNKNOWN, () -> x.house(0, 3, 0));
        C.refused(x, "house(0, 0, -1)", UNKNOWN, () -> x.house(0, 0, -1));
        C.refused(x, "house(0, 0, 1): of another FIELD", OUTSIDE, () -> x.house(0, 0, 1));
        C.refused(x, "house(0, 2, 1): of none", OUTSIDE, () -> x.house(0, 2, 1));
        C.due("house again", x.house(0, 1, 0), 1);
        C.due("house: one only", houseIn(x), 1);
    }

    private static void right() {
        Run x = new Run();
        x.field();
        x.cell(0, 0, 0, 0);
        C.refused(x, "right(1, 1, 0)", UNKNOWN, () -> x.right(1, 1, 0));
        C.refused(x, "right(-1, 9, 0): UNKNOWN first", UNKNOWN, () -> x.right(-1, 9, 0));
        C.refused(x, "right(0, 0, 0)", OUTSIDE, () -> x.right(0, 0, 0));
        C.refused(x, "right(0, 3, 0)", OUTSIDE, () -> x.right(0, 3, 0));
        C.refused(x, "right(0, 1, -1)", OUTSIDE, () -> x.right(0, 1, -1));
        C.refused(x, "right(0, 1, 1000001)", OUTSIDE, () -> x.right(0, 1, 1000001));
        C.refused(x, "right(0, 2, -1)", OUTSIDE, () -> x.right(0, 2, -1));
        C.refused(x, "right(0, 2, 1001)", OUTSIDE, () -> x.right(0, 2, 1001));
        C.due("right(0, 1, 1000000)", x.right(0, 1, 1000000), 1);
        C.due("right(0, 2, 1000)", x.right(0, 2, 1000), 2);
        C.due("right(0, 1, 0)", x.right(0, 1, 0), 3);
        C.due("right(0, 2, 0)", x.right(0, 2, 0), 4);
        C.refused(x, "right(0, 2, 0), a fifth", FULL, () -> x.right(0, 2, 0));
        C.refused(x, "right(0, 2, 1001), a fifth: OUTSIDE first", OUTSIDE, () -> x.right(0, 2, 1001));
        x.field();
        C.due("another FIELD has RIGHTS of its own", x.right(1, 2, 0), 1);
        x.takeNow(0, 0);
        C.refused(x, "right(0, 2, 0), a fifth, once an ORDER was MADE: STATE first", STATE, () -> x.right(0, 2, 0));
    }

    private static void afterAnOrder() {
        Run x = new Run();
        x.map(2, 1);
        x.field();
        x.cell(0, 0, 0, 0);
        x.line(0, 0, true);
        x.line(1, 0, true);
        C.due("a line alone is no ORDER: lane", x.lane(1, 0), 1);
        x.make();
        mapIsShut(x);
        x.days(28);
        x.enter();
        mapIsShut(x);
        x.undo();
        mapIsShut(x);
    }

    private static void mapIsShut(Run x) {
        C.refused(x, "map(1, 1), shut", STATE, () -> x.map(1, 1));
        C.refused(x, "map(0, 1), shut: OUTSIDE first", OUTSIDE, () -> x.map(0, 1));
        C.refused(x, "field(), shut", STATE, x::field);
        C.refused(x, "cell(1, 0, 0, 0), shut", STATE, () -> x.cell(1, 0, 0, 0));
        C.refused(x, "cell(2, 0, 0, 0), shut: UNKNOWN first", UNKNOWN, () -> x.cell(2, 0, 0, 0));
        C.refused(x, "cell(1, 0, 0, 4), shut: OUTSIDE first", OUTSIDE, () -> x.cell(1, 0, 0, 4));
        C.refused(x, "lane(0, 0), shut", STATE, () -> x.lane(0, 0));
        C.refused(x, "lane(0, 1), shut: UNKNOWN first", UNKNOWN, () -> x.lane(0, 1));
        C.refused(x, "house(0, 0, 0), shut", STATE, () -> x.house(0, 0, 0));
        C.refused(x, "house(1, 0, 0), shut: UNKNOWN first", UNKNOWN, () -> x.house(1, 0, 0));
        C.refused(x, "house(0, 1, 0), shut: OUTSIDE first", OUTSIDE, () -> x.house(0, 1, 0));
        C.refused(x, "right(0, 1, 1), shut", STATE, () -> x.right(0, 1, 1));
        C.refused(x, "right(1, 1, 1), shut: UNKNOWN first", UNKNOWN, () -> x.right(1, 1, 1));
        C.refused(x, "right(0, 5, 1), shut: OUTSIDE first", OUTSIDE, () -> x.right(0, 5, 1));
    }
}
