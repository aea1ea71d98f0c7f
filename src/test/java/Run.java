import java.util.ArrayList;
import java.util.List;

/**
 * A new LandTaken whose calls are kept, so that the same run, or the first calls of it, can be made again on another
 * new object. No run goes beyond the 512 calls that the document promises anything for.
 */
final class Run {
    private static final int PROMISED = 512;

    private interface Call {
        long on(LandTaken object);
    }

    private final LandTaken object = new LandTaken();
    private final List<Call> calls = new ArrayList<>();
    private String last = "new LandTaken()";
    private int wide = 1;
    private int high = 1;

    private long ask(String text, Call call) {
        if (room() == 0) {
            throw new IllegalStateException("a test makes more than 512 calls on one object: " + text);
        }
        calls.add(call);
        last = text;
        return call.on(object);
    }

    private static String text(String name, Object... arguments) {
        StringBuilder text = new StringBuilder(name).append('(');
        for (int i = 0; i < arguments.length; i++) {
            text.append(i == 0 ? "" : ", ").append(arguments[i]);
        }
        return text.append(')').toString();
    }

    /** How many calls more are promised. */
    int room() {
        return PROMISED - calls.size();
    }

    int size() {
        return calls.size();
    }

    /** The call that was made last. */
    String last() {
        return last;
    }

    int wide() {
        return wide;
    }

    int high() {
        return high;
    }

    /** A new object behind the first n calls of this run. */
    Run again(int n) {
        Run other = new Run();
        for (Call call : calls.subList(0, n)) {
            other.ask(last, call);
        }
        other.wide = wide;
        other.high = high;
        return other;
    }

    Run again() {
        return again(size());
    }

    int map(int w, int h) {
        int cells = (int) ask(text("map", w, h), x -> x.map(w, h));
        if (cells > 0) {
            wide = w;
            high = h;
        }
        return cells;
    }

    int field() {
        return (int) ask(text("field"), LandTaken::field);
    }

    int cell(int cx, int cy, int f, int soil) {
        return (int) ask(text("cell", cx, cy, f, soil), x -> x.cell(cx, cy, f, soil));
    }

    int lane(int cx, int cy) {
        return (int) ask(text("lane", cx, cy), x -> x.lane(cx, cy));
    }

    int house(int f, int cx, int cy) {
        return (int) ask(text("house", f, cx, cy), x -> x.house(f, cx, cy));
    }

    int right(int f, int kind, int amount) {
        return (int) ask(text("right", f, kind, amount), x -> x.right(f, kind, amount));
    }

    int price(int soil, int day, int price) {
        return (int) ask(text("price", soil, day, price), x -> x.price(soil, day, price));
    }

    int costs(int soil, int day) {
        return (int) ask(text("costs", soil, day), x -> x.costs(soil, day));
    }

    int rate(int k, int v) {
        return (int) ask(text("rate", k, v), x -> x.rate(k, v));
    }

    int days(int n) {
        return (int) ask(text("days", n), x -> x.days(n));
    }

    int line(int cx, int cy, boolean is) {
        return (int) ask(text("line", cx, cy, is), x -> x.line(cx, cy, is));
    }

    int make() {
        return (int) ask(text("make"), LandTaken::make);
    }

    int object(int k) {
        return (int) ask(text("object", k), x -> x.object(k));
    }

    int hear(int k, boolean strike) {
        return (int) ask(text("hear", k, strike), x -> x.hear(k, strike));
    }

    int enter() {
        return (int) ask(text("enter"), LandTaken::enter);
    }

    long undo() {
        return ask(text("undo"), LandTaken::undo);
    }

    long pay(int o, int k, long v) {
        return ask(text("pay", o, k, v), x -> x.pay(o, k, v));
    }

    long told(int o, int k, int what) {
        return ask(text("told", o, k, what), x -> x.told(o, k, what));
    }

    long gets(int o, int k, int r) {
        return ask(text("gets", o, k, r), x -> x.gets(o, k, r));
    }

    int look(int cx, int cy, int what) {
        return (int) ask(text("look", cx, cy, what), x -> x.look(cx, cy, what));
    }

    int pieces(int f) {
        return (int) ask(text("pieces", f), x -> x.pieces(f));
    }

    int piece(int f, int i, int what) {
        return (int) ask(text("piece", f, i, what), x -> x.piece(f, i, what));
    }

    int count(int what) {
        return (int) ask(text("count", what), x -> x.count(what));
    }

    long digest() {
        return ask(text("digest"), LandTaken::digest);
    }

    /** CELLS of a row, from one column to another, become of a FIELD and of a SOIL. */
    void row(int y, int from, int to, int f, int soil) {
        for (int at = from; at <= to; at++) {
            cell(at, y, f, soil);
        }
    }

    /** The LINE takes in CELLS given as x, y, x, y .. */
    void choose(int... cells) {
        for (int i = 0; i + 1 < cells.length; i += 2) {
            line(cells[i], cells[i + 1], true);
        }
    }

    /** An ORDER over the CELLS given as x, y, x, y .., ENTERED at once (the days of notice are 0 while it is MADE). */
    int takeNow(int... cells) {
        int notice = rate(4, 0);
        choose(cells);
        make();
        rate(4, notice);
        return enter();
    }
}
