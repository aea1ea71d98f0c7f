/** Promises 21 to 25: look, pieces, piece, count, digest. */
public final class TellTest {
    private static final Checks C = new Checks("TellTest");
    private static final int NONE = LandTaken.NONE, UNKNOWN = LandTaken.UNKNOWN, OUTSIDE = LandTaken.OUTSIDE;

    public static void main(String[] args) {
        look();
        pieces();
        piecesOfWindingLand();
        ways();
        count();
        digestOfANewObject();
        digestOfAll();
        digestSeesEachChange();
        C.end();
    }

    private static void look() {
        Run x = new Run();
        x.map(3, 2);
        x.field();
        x.cell(2, 1, 0, 3);
        x.lane(1, 0);
        x.line(2, 1, true);
        int[] of21 = {0, 3, 0, 0, 1};
        int[] of10 = {NONE, 0, 1, 0, 0};
        for (int what = 0; what < 5; what++) {
            C.due("look(2, 1, " + what + ")", x.look(2, 1, what), of21[what]);
            C.due("look(1, 0, " + what + ")", x.look(1, 0, what), of10[what]);
        }
        x.takeNow(2, 1);
        C.due("look(2, 1, 3)", x.look(2, 1, 3), 1);
        C.due("look(2, 1, 0): of its FIELD still", x.look(2, 1, 0), 0);
        C.due("look(2, 1, 4)", x.look(2, 1, 4), 0);
        C.due("look(2, 1, 5)", x.look(2, 1, 5), OUTSIDE);
        C.due("look(2, 1, -1)", x.look(2, 1, -1), OUTSIDE);
        C.due("look(3, 1, 5): UNKNOWN first", x.look(3, 1, 5), UNKNOWN);
        C.due("look(-1, 0, 0)", x.look(-1, 0, 0), UNKNOWN);
        C.due("look(0, -1, 0)", x.look(0, -1, 0), UNKNOWN);
        C.due("look(0, 2, 0)", x.look(0, 2, 0), UNKNOWN);
        C.due("look(MAX, MAX, 0)", x.look(Integer.MAX_VALUE, Integer.MAX_VALUE, 0), UNKNOWN);
    }

    private static void piece(Run x, int f, int i, int size, int first, int main, int way) {
        int[] want = {size, first, main, way};
        for (int what = 0; what < 4; what++) {
            C.due("piece(" + f + ", " + i + ", " + what + ")", x.piece(f, i, what), want[what]);
        }
    }

    private static void pieces() {
        Run x = new Run();
        x.map(4, 3);
        x.field();
        x.field();
        // 0 0 . 0 / . 1 0 . / 0 1 0 0: corners do not hang together.
        x.cell(0, 0, 0, 0);
        x.cell(1, 0, 0, 0);
        x.cell(3, 0, 0, 0);
        x.cell(1, 1, 1, 0);
        x.cell(2, 1, 0, 0);
        x.cell(0, 2, 0, 0);
        x.cell(1, 2, 1, 0);
        x.cell(2, 2, 0, 0);
        x.cell(3, 2, 0, 0);
        C.due("pieces(0)", x.pieces(0), 4);
        piece(x, 0, 0, 2, 0, 0, 0);
        piece(x, 0, 1, 1, 3, 0, 0);
        piece(x, 0, 2, 3, 16 + 2, 1, 0);
        piece(x, 0, 3, 1, 32, 0, 0);
        C.due("pieces(1)", x.pieces(1), 1);
        piece(x, 1, 0, 2, 16 + 1, 1, 0);
        x.house(0, 0, 2);
        piece(x, 0, 2, 3, 16 + 2, 0, 0);
        piece(x, 0, 3, 1, 32, 1, 0);
        C.due("pieces(2)", x.pieces(2), UNKNOWN);
        C.due("pieces(-1)", x.pieces(-1), UNKNOWN);
        C.due("piece(2, 0, 0)", x.piece(2, 0, 0), UNKNOWN);
        C.due("piece(-1, 0, 0)", x.piece(-1, 0, 0), UNKNOWN);
        C.due("piece(0, 4, 0)", x.piece(0, 4, 0), UNKNOWN);
        C.due("piece(0, -1, 9): UNKNOWN first", x.piece(0, -1, 9), UNKNOWN);
        C.due("piece(0, 0, 4)", x.piece(0, 0, 4), OUTSIDE);
        C.due("piece(0, 0, -1)", x.piece(0, 0, -1), OUTSIDE);
        x.takeNow(0, 2, 2, 2);
        C.due("pieces(0), some TAKEN", x.pieces(0), 4);
        piece(x, 0, 0, 2, 0, 1, 0);
        piece(x, 0, 2, 1, 16 + 2, 0, 0);
        piece(x, 0, 3, 1, 32 + 3, 0, 0);
        x.undo();
        piece(x, 0, 3, 1, 32, 1, 0);
    }

    private static void piecesOfWindingLand() {
        Run x = new Run();
        x.map(16, 16);
        x.field();
        int cells = 0;
        for (int y = 0; y < 16; y++) {
            for (int at = 0; at < 16; at++) {
                boolean isTurn = y % 4 == 1 ? at == 15 : y % 4 == 3 && at == 0;
                if (y % 2 == 0 || isTurn) {
                    x.cell(at, y, 0, 0);
                    cells++;
                }
            }
        }
        C.due("pieces of a snake", x.pieces(0), 1);
        piece(x, 0, 0, cells, 0, 1, 0);
        x.lane(0, 15);
        piece(x, 0, 0, cells - 1, 0, 1, 1);
        x.map(16, 16);
        x.field();
        x.cell(15, 0, 0, 0);
        x.cell(0, 1, 0, 0);
        C.due("a row's end does not border on the next one's start", x.pieces(0), 2);
        x.map(3, 16);
        x.field();
        for (int y = 0; y < 16; y++) {
            x.row(y, 0, 2, 0, 0);
        }
        C.due("the whole of a small map", x.piece(0, 0, 0), 48);
    }

    private static void ways() {
        Run x = new Run();
        x.map(3, 3);
        x.field();
        x.cell(1, 1, 0, 0);
        for (int place = 0; place < 9; place++) {
            if (place != 4) {
                x.lane(place % 3, place / 3);
                C.due("WAY by a LANE at " + place, x.piece(0, 0, 3), place % 2);
                x.cell(place % 3, place / 3, NONE, 0);
            }
        }
        x.field();
        x.cell(0, 2, 1, 0);
        x.lane(1, 0);
        x.takeNow(1, 0, 0, 2);
        C.due("no WAY by a TAKEN LANE", x.piece(0, 0, 3), 0);
        x.undo();
        C.due("WAY by a LANE given back", x.piece(0, 0, 3), 1);
    }

    private static void count() {
        Run x = new Run();
        x.map(3, 2);
        x.field();
        x.field();
        x.row(0, 0, 2, 0, 0);
        x.row(1, 0, 1, 1, 0);
        x.lane(2, 1);
        x.days(3);
        x.rate(4, 0);
        x.line(0, 0, true);
        x.line(0, 1, true);
        x.line(2, 1, true);
        counts(x, 2, 0, 3, 0, 0, 3, 0, 0);
        x.make();
        counts(x, 2, 0, 3, 1, 2, 3, 1, 0);
        x.object(1);
        x.enter();
        counts(x, 2, 2, 3, 1, 2, 3, 1, 0);
        x.hear(1, true);
        counts(x, 2, 2, 0, 1, 2, 3, 0, 0);
        x.takeNow(1, 0);
        counts(x, 2, 3, 0, 2, 1, 3, 0, 0);
        x.undo();
        counts(x, 2, 2, 0, 1, 2, 3, 0, 1);
        x.undo();
        counts(x, 2, 0, 0, 0, 0, 3, 0, 2);
        C.due("count(8)", x.count(8), OUTSIDE);
        C.due("count(-1)", x.count(-1), OUTSIDE);
    }

    private static void counts(Run x, int... want) {
        for (int what = 0; what < 8; what++) {
            C.due("count(" + what + ")", x.count(what), want[what]);
        }
    }

    private static long mixed(long... numbers) {
        long h = 127;
        for (long number : numbers) {
            h = 31 * h + number;
        }
        return h;
    }

    private static void digestOfANewObject() {
        C.due("digest() of a new object", new Run().digest(),
                mixed(1, 1, NONE, 0, 0, 0, 0, 0, 0, 0, 0, 28, 0, 0, 0));
    }

    private static void digestOfAll() {
        Run x = new Run();
        x.map(3, 2);
        x.field();
        x.field();
        x.row(0, 0, 2, 0, 1);
        x.cell(1, 1, 1, 2);
        x.lane(0, 1);
        x.right(0, 1, 70);
        x.right(0, 2, 500);
        x.right(1, 2, 9);
        x.house(1, 1, 1);
        x.price(1, 0, 100);
        x.rate(3, 1000);
        x.rate(4, 2);
        x.line(0, 0, true);
        x.line(1, 1, true);
        x.days(1);
        x.make();
        x.object(1);
        x.days(2);
        x.enter();
        x.days(100);
        x.pay(0, 0, 30);
        C.due("digest()", x.digest(), mixed(3, 2,
                0, 1, 0, 1, 1, 0, 1, 0, 0, 0, 0, 1, 0, 0, 0,
                NONE, 0, 1, 0, 0, 1, 2, 0, 0, 1, NONE, 0, 0, 0, 0,
                NONE, 1, 70, 2, 500,
                16 + 1, 2, 9,
                1,
                0, 4, 3, 100, 0, 0, 0, 100, 20, 80, 0, 10, 1, 0,
                1, 1, 0, 0, 0, 0, 0, 0, 0, 0, 0, 0, 1, 0,
                0, 0, 0, 1000, 2,
                103, 1, 0));
        x.hear(1, true);
        x.rate(4, 0);
        x.line(1, 0, true);
        x.make();
        C.due("digest() of two ORDERS", x.digest(), mixed(3, 2,
                0, 1, 0, 1, 0, 0, 1, 0, 0, 1, 0, 1, 0, 0, 0,
                NONE, 0, 1, 0, 0, 1, 2, 0, 0, 0, NONE, 0, 0, 0, 0,
                NONE, 1, 70, 2, 500,
                16 + 1, 2, 9,
                1,
                0, 4, 3, 100, 0, 0, 0, 100, 20, 80, 0, 10, 1, 0,
                1, 3, 0, 0, 0, 0, 0, 0, 0, 0, 0, 0, 1, 0,
                103,
                0, 0, 0, 0, 0, 0, 0, 0, 0, 0, 0, 0, 1, 0,
                0, 0, 0, 1000, 0,
                103, 1, 0));
    }

    private static void digestSeesEachChange() {
        Run x = new Run();
        x.map(2, 2);
        long before = x.digest();
        C.due("digest() changes nothing", x.digest(), before);
        x.price(0, 0, 5);
        C.due("digest() does not tell PRICES", x.digest(), before);
        x.days(1);
        C.holds("digest() tells THE DAY", x.digest() != before);
        Run y = new Run();
        y.map(2, 2);
        y.days(1);
        C.due("two objects with like calls tell the same", y.digest(), x.digest());
        y.rate(2, 1);
        C.holds("digest() tells RATES", x.digest() != y.digest());
    }
}
