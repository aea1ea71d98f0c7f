import java.util.Random;

/** Long runs of calls, the same ones each time: the class answers as the model does, call by call. */
public final class ModelTest {
    private static final int RUNS = 400, CALLS = 512;
    private static final int[] ODD = {-1, -2, 16, 60, 100000, Integer.MIN_VALUE, Integer.MAX_VALUE};

    private final Random dice;
    private final LandTaken x = new LandTaken();
    private final Model m = new Model();
    private int w = 1;
    private int h = 1;
    private String call;

    private ModelTest(int run) {
        dice = new Random(run);
    }

    public static void main(String[] args) {
        int wrong = 0;
        for (int run = 0; run < RUNS && wrong < 10; run++) {
            wrong += new ModelTest(run).isAsModel(run) ? 0 : 1;
        }
        System.out.println("ModelTest: " + RUNS + " runs of " + CALLS + " calls, " + wrong + " not as due");
        if (wrong != 0) {
            System.exit(1);
        }
    }

    private boolean isAsModel(int run) {
        int calls = 0;
        int build = 20 + dice.nextInt(60);
        while (calls < CALLS) {
            boolean same = calls == 0 ? newMap() : calls < build ? layOut() : goOn();
            calls++;
            if (!same) {
                System.out.println("ModelTest: run " + run + ", call " + calls + ": " + call);
                return false;
            }
        }
        return true;
    }

    private boolean same(String name, long got, long want) {
        call = name + " answered " + got + ", due is " + want;
        return got == want;
    }

    /** Mostly 0 to n - 1, now and then n, or something odd. */
    private int below(int n) {
        if (dice.nextInt(40) == 0) {
            return ODD[dice.nextInt(ODD.length)];
        }
        return dice.nextInt(30) == 0 ? n : dice.nextInt(Math.max(n, 1));
    }

    private boolean newMap() {
        w = dice.nextInt(12) == 0 ? 16 : 1 + dice.nextInt(5);
        h = dice.nextInt(12) == 0 ? 16 : 1 + dice.nextInt(5);
        return same("map", x.map(w, h), m.map(w, h));
    }

    private boolean layOut() {
        int a = below(w);
        int b = below(h);
        int f = below(m.count(0));
        int s = below(4);
        switch (dice.nextInt(20)) {
            case 0: case 1: return same("field", x.field(), m.field());
            case 2: return same("lane", x.lane(a, b), m.lane(a, b));
            case 3: case 4: return same("house", x.house(f, a, b), m.house(f, a, b));
            case 5: case 6: return right();
            case 7: return line();
            case 8: return price();
            case 9: return rate();
            default: return same("cell", x.cell(a, b, f, s), m.cell(a, b, f, s));
        }
    }

    private boolean right() {
        int f = below(m.count(0));
        int kind = 1 + below(2);
        int amount = below(kind == 2 ? 1001 : dice.nextInt(3) == 0 ? 1000001 : 3000);
        return same("right", x.right(f, kind, amount), m.right(f, kind, amount));
    }

    private boolean price() {
        int soil = below(4);
        int from = dice.nextInt(20) == 0 ? below(10001) : below(m.count(5) + 20);
        int value = dice.nextInt(4) == 0 ? below(100001) : below(1000);
        return same("price", x.price(soil, from, value), m.price(soil, from, value));
    }

    private boolean rate() {
        int[] most = {1001, 100001, 1001, 10001, 1001};
        int k = below(5);
        int bound = k < 0 || k > 4 ? 5 : k == 4 ? 6 : dice.nextBoolean() ? most[k] : 300;
        int v = below(bound);
        return same("rate", x.rate(k, v), m.rate(k, v));
    }

    private boolean line() {
        int a = below(w);
        int b = below(h);
        boolean is = dice.nextInt(5) != 0;
        return same("line", x.line(a, b, is), m.line(a, b, is));
    }

    private boolean goOn() {
        int o = below(m.count(3));
        int k = dice.nextInt(3) == 0 ? below(3) : 0;
        boolean is = dice.nextInt(3) == 0;
        switch (dice.nextInt(40)) {
            case 0: return rate();
            case 1: return price();
            case 2: case 3: case 4: return days();
            case 5: case 6: case 7: case 8: case 9: case 10: return line();
            case 11: case 12: case 13: case 14: return same("make", x.make(), m.make());
            case 15: case 16: return same("object", x.object(k), m.object(k));
            case 17: case 18: return same("hear", x.hear(k, is), m.hear(k, is));
            case 19: case 20: case 21: case 22: case 23: return same("enter", x.enter(), m.enter());
            case 24: return dice.nextInt(3) == 0 ? same("undo", x.undo(), m.undo()) : layOut();
            case 25: case 26: case 27: return pay(o, k);
            default: return ask(o, k);
        }
    }

    private boolean days() {
        int n = dice.nextInt(20) == 0 ? below(1001) : 1 + below(8);
        return same("days", x.days(n), m.days(n));
    }

    private boolean pay(int o, int k) {
        long v = dice.nextInt(10) == 0 ? 1000000000L + dice.nextInt(2) : below(1000);
        return same("pay", x.pay(o, k, v), m.pay(o, k, v));
    }

    private boolean ask(int o, int k) {
        int f = below(m.count(0));
        int what = below(15);
        int a = below(w);
        int b = below(h);
        switch (dice.nextInt(9)) {
            case 0: return same("told", x.told(o, k, what), m.told(o, k, what));
            case 1: return same("gets", x.gets(o, k, what % 5), m.gets(o, k, what % 5));
            case 2: return same("look", x.look(a, b, what % 6), m.look(a, b, what % 6));
            case 3: return same("pieces", x.pieces(f), m.pieces(f));
            case 4: return same("piece", x.piece(f, k, what % 5), m.piece(f, k, what % 5));
            case 5: return same("count", x.count(what), m.count(what));
            case 6: return same("costs", x.costs(f, b), m.costs(f, b));
            default: return same("digest", x.digest(), m.digest());
        }
    }
}
