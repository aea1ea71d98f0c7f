import java.util.ArrayList;
import java.util.List;
import java.util.function.ToLongFunction;

/**
 * All that can be found out of a run's state: what it tells, and what it answers to calls that come behind, as some
 * of the state is only told then (how many days have PRICES, what is left of a DEBT, when INTEREST was counted).
 * Each way on starts from a new object, so that none sees what another one did.
 */
final class Watch {
    private static final int LAST_CLOSE_DAY = 60;

    private final Run run;
    private final int calls;
    private final int steps;
    private final List<String> seen = new ArrayList<>();
    private Run now;
    private int left;

    private Watch(Run run, int calls, int steps) {
        this.run = run;
        this.calls = calls;
        this.steps = steps;
    }

    /** What is seen of a run behind its first calls, by ways on of so many steps at most. */
    static List<String> of(Run run, int calls, int steps) {
        Watch watch = new Watch(run, calls, steps);
        watch.begin();
        watch.seeAll();
        watch.begin();
        watch.tellPricesAndRights();
        watch.begin();
        watch.makeAndEnter();
        watch.begin();
        watch.hearAndEnter();
        watch.begin();
        watch.payAll();
        watch.begin();
        watch.undoAllAndTakeAll();
        return watch.seen;
    }

    private void begin() {
        now = run.again(calls);
        left = steps;
    }

    private long ask(ToLongFunction<Run> call) {
        if (left == 0) {
            return LandTaken.NONE;
        }
        left--;
        long answer = call.applyAsLong(now);
        seen.add(now.last() + " = " + answer);
        return answer;
    }

    /** A question changes nothing: when an object's calls are used up, the next one goes on. */
    private long see(ToLongFunction<Run> question) {
        if (left == 0) {
            begin();
        }
        return ask(question);
    }

    private void seeAll() {
        see(Run::digest);
        for (int what = 0; what < 8; what++) {
            int w = what;
            see(x -> x.count(w));
        }
        seePrices();
        seePieces();
        int orders = (int) see(x -> x.count(3));
        for (int o = Math.max(0, orders - 3); o < orders; o++) {
            seeCases(o);
        }
    }

    private void seePrices() {
        for (int soil = 0; soil < 4; soil++) {
            int s = soil;
            for (int day = 0; day <= LAST_CLOSE_DAY; day++) {
                int d = day;
                see(x -> x.costs(s, d));
            }
            see(x -> x.costs(s, 9999));
            see(x -> x.costs(s, 10000));
        }
    }

    private void seePieces() {
        int fields = (int) see(x -> x.count(0));
        for (int field = 0; field < fields; field++) {
            int f = field;
            int pieces = (int) see(x -> x.pieces(f));
            for (int i = 0; i < Math.min(pieces, 8); i++) {
                for (int what = 0; what < 4; what++) {
                    int piece = i;
                    int w = what;
                    see(x -> x.piece(f, piece, w));
                }
            }
        }
    }

    private void seeCases(int o) {
        boolean isCase = true;
        for (int k = 0; k < 12 && isCase; k++) {
            int one = k;
            for (int what = 0; what < 14; what++) {
                int w = what;
                isCase &= see(x -> x.told(o, one, w)) >= 0;
            }
            for (int right = 0; right < 4; right++) {
                int r = right;
                see(x -> x.gets(o, one, r));
            }
        }
    }

    private void tellPricesAndRights() {
        for (int soil = 0; soil < 4; soil++) {
            int s = soil;
            ask(x -> x.price(s, 9998, 7));
        }
        for (int field = 0; field < 12; field++) {
            int f = field;
            ask(x -> x.right(f, 1, 1));
        }
        ask(Run::field);
        ask(Run::digest);
    }

    private void makeAndEnter() {
        ask(Run::make);
        ask(Run::enter);
        ask(x -> x.days(1000));
        ask(Run::enter);
        ask(Run::digest);
    }

    private void hearAndEnter() {
        for (int k = 0; k < 12; k++) {
            int one = k;
            ask(x -> x.object(one));
            ask(x -> x.hear(one, false));
        }
        ask(x -> x.days(1));
        ask(Run::enter);
        ask(x -> x.days(999));
        ask(Run::enter);
        ask(Run::digest);
        takeAll();
    }

    private void payAll() {
        int orders = (int) ask(x -> x.count(3));
        for (int days = 1; days <= 100; days += 33) {
            int n = days;
            ask(x -> x.days(n));
            ask(Run::digest);
            for (int order = Math.max(0, orders - 3); order < orders; order++) {
                int o = order;
                ask(x -> x.pay(o, 0, 3));
                ask(x -> x.pay(o, 1, 40));
            }
        }
        ask(Run::digest);
    }

    private void undoAllAndTakeAll() {
        for (int o = 0; o <= 60 && ask(Run::undo) >= 0; o++) {
            ask(Run::digest);
        }
        takeAll();
    }

    /** What each RIGHT gets of all the land tells what is left of the DEBTS. */
    private void takeAll() {
        for (int place = 0; place < run.wide() * run.high(); place++) {
            int at = place;
            ask(x -> x.line(at % run.wide(), at / run.wide(), true));
        }
        ask(Run::make);
        ask(x -> x.days(1000));
        ask(Run::enter);
        ask(Run::digest);
        int latest = (int) ask(x -> x.count(3)) - 1;
        for (int k = 0; k < 12; k++) {
            for (int right = 0; right < 4; right++) {
                int one = k;
                int r = right;
                ask(x -> x.gets(latest, one, r));
            }
        }
    }
}
