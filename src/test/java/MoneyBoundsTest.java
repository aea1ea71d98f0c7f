/** Promises 18 to 20 at their bounds: each sentence that names one has a test of its own. */
public final class MoneyBoundsTest {
    private static final Checks C = new Checks("MoneyBoundsTest");
    private static final int UNKNOWN = LandTaken.UNKNOWN, OUTSIDE = LandTaken.OUTSIDE, STATE = LandTaken.STATE;
    private static final int MIN = Checks.MIN, MAX = Checks.MAX;
    private static final long MOST = 1000000000L;

    public static void main(String[] args) {
        payFromOneToTheMost();
        payOfOrdersAndCases();
        payReasons();
        payFromTheEntryOn();
        payForEarlierOrders();
        firstToInterest();
        atMostToBothTogether();
        interestRoundedDown();
        interestOfAllDaysTogether();
        interestSinceTheLastPayment();
        interestKeptApart();
        interestWithoutInterest();
        interestByTheRateOfTheEntry();
        interestOfWhatIsOwed();
        interestOnTheLastDay();
        toldOfEachState();
        toldNothingAheadOfTheEntry();
        toldWhat();
        toldOfOrdersAndCases();
        getsRights();
        getsOfEachState();
        C.end();
    }

    /** An ORDER over one CELL is ENTERED on day 0; so much is DUE for it, with millionths of INTEREST a day. */
    private static Run entered(int due, int interest) {
        Run x = new Run();
        x.map(2, 1);
        x.field();
        x.row(0, 0, 1, 0, 0);
        x.price(0, 0, due);
        x.rate(3, interest);
        x.rate(4, 0);
        x.choose(0, 0);
        x.make();
        x.enter();
        return x;
    }

    /** paid of DUE, what is OWED, INTEREST not paid, INTEREST paid. */
    private static void account(Run x, long... want) {
        C.told(x, 0, 0, 8, want);
    }

    // ---- promise 18

    private static void payFromOneToTheMost() {
        C.says("MONEY v (1 to 1000000000) is paid on THE DAY for CASE k of ORDER o: how much of it was taken.");
        Run x = entered(1000, 10000);
        x.days(3);
        long[] bad = {0, -1, MOST + 1, Long.MIN_VALUE, Long.MAX_VALUE, (1L << 32) + 1, 1 - (1L << 32), MIN, MAX};
        for (long v : bad) {
            C.refused(x, OUTSIDE, () -> x.pay(0, 0, v));
        }
        account(x, 0, 1000, 30, 0);
        C.due(x, x.pay(0, 0, 1), 1);
        account(x, 0, 1000, 29, 1);
        C.due(x, x.pay(0, 0, MOST), 1029);
        account(x, 1000, 0, 0, 30);
        C.due(x, x.pay(0, 0, MOST), 0);
        C.due(x, x.pay(0, 0, 1), 0);
        account(x, 1000, 0, 0, 30);
    }

    private static void payOfOrdersAndCases() {
        C.says("UNKNOWN (as -101): o, k; OUTSIDE; STATE: it is not ENTERED.");
        Run x = Stage.DONE.run();
        for (int bad : new int[] {-1, 1, 59, 60, MIN, MAX}) {
            C.refused(x, UNKNOWN, () -> x.pay(bad, 0, 1));
        }
        for (int bad : new int[] {-1, 2, 11, 12, MIN, MAX}) {
            C.refused(x, UNKNOWN, () -> x.pay(0, bad, 1));
        }
        C.due(x, x.pay(0, 0, 1), 1);
        C.due(x, x.pay(0, 1, 2), 2);
        C.due(x, x.told(0, 0, 8), 1);
        C.due(x, x.told(0, 1, 8), 2);
        for (Stage stage : Stage.values()) {
            if (!stage.hasOrder()) {
                Run none = stage.run();
                C.refused(none, UNKNOWN, () -> none.pay(0, 0, 1));
            }
        }
    }

    private static void payReasons() {
        C.says("STATE: it is not ENTERED.");
        for (Stage stage : Stage.values()) {
            Run x = stage.run();
            C.refused(x, UNKNOWN, () -> x.pay(1, 0, 0));
            C.refused(x, UNKNOWN, () -> x.pay(-1, 2, 1));
            C.refused(x, UNKNOWN, () -> x.pay(0, 2, MOST + 1));
            if (stage.hasOrder()) {
                C.refused(x, OUTSIDE, () -> x.pay(0, 1, 0));
                C.refused(x, OUTSIDE, () -> x.pay(0, 1, MOST + 1));
                if (stage == Stage.DONE) {
                    C.due(x, x.pay(0, 1, 1), 1);
                } else {
                    C.refused(x, STATE, () -> x.pay(0, 1, 1));
                    C.refused(x, STATE, () -> x.pay(0, 1, MOST));
                }
            }
        }
    }

    private static void payFromTheEntryOn() {
        C.says("MONEY paid for a CASE (from its ENTRY on) lessens what is OWED");
        Run x = Stage.KEPT.run();
        x.days(5);
        C.refused(x, STATE, () -> x.pay(0, 0, 1));
        x.enter();
        C.due(x, "on the day of the ENTRY", x.pay(0, 0, 9), 9);
        C.told(x, 0, 0, 8, 9, 150, 0, 0);
        Run half = Stage.PARTLY_ENTERED.run();
        C.due(half, "while the ORDER is not DONE", half.pay(0, 0, 9), 9);
        C.refused(half, STATE, () -> half.pay(0, 1, 9));
        half.hear(1, false);
        C.refused(half, STATE, () -> half.pay(0, 1, 9));
        half.enter();
        C.due(half, half.pay(0, 1, 9), 9);
        Run struck = Stage.PARTLY_ENTERED.run();
        struck.hear(1, true);
        C.refused(struck, STATE, () -> struck.pay(0, 1, 9));
        C.due(struck, struck.pay(0, 0, 9), 9);
    }

    private static void payForEarlierOrders() {
        C.says("for CASE k of ORDER o");
        Run x = Stage.DONE.run();
        x.choose(0, 0);
        x.make();
        C.due(x, "while a later one is not DONE", x.pay(0, 0, 9), 9);
        C.refused(x, STATE, () -> x.pay(1, 0, 9));
        x.days(5);
        x.enter();
        C.due(x, x.pay(1, 0, 8), 8);
        C.due(x, x.pay(0, 0, 7), 7);
        C.due(x, x.told(0, 0, 8), 16);
        C.due(x, x.told(1, 0, 8), 8);
        C.due(x, x.undo(), 8);
        C.due(x, x.told(0, 0, 8), 16);
    }

    private static void firstToInterest() {
        C.says("a payment goes first to INTEREST, then to what is OWED");
        for (int v = 9; v <= 11; v++) {
            Run x = entered(1000, 1000);
            x.days(10);
            account(x, 0, 1000, 10, 0);
            C.due(x, x.pay(0, 0, v), v);
            account(x, Math.max(0, v - 10), 1000 - Math.max(0, v - 10), Math.max(0, 10 - v), Math.min(v, 10));
        }
    }

    private static void atMostToBothTogether() {
        C.says("at most to both together");
        for (int v = 1009; v <= 1011; v++) {
            Run x = entered(1000, 1000);
            x.days(10);
            C.due(x, x.pay(0, 0, v), Math.min(v, 1010));
            account(x, Math.min(v - 10, 1000), v == 1009 ? 1 : 0, 0, 10);
            x.days(1000);
            C.due(x, "INTEREST behind it", x.told(0, 0, 10), v == 1009 ? 1 : 0);
        }
    }

    private static void interestRoundedDown() {
        C.says("millionths of it (RATE 3 as it was at the ENTRY), all days since the last payment (or ENTRY) together, "
                + "rounded down, kept apart");
        int[][] rows = {{1000, 999, 1, 0}, {1000, 1000, 1, 1}, {999, 1000, 1, 0}, {1000, 1001, 1, 1},
            {1000, 1999, 1, 1}, {1, 1000, 999, 0}, {1, 1000, 1000, 1}, {1, 1, 1000, 0}, {100000, 10, 1, 1},
            {100000, 9, 1, 0}, {100000, 10000, 1000, 1000000}, {100000, 0, 1000, 0}, {0, 10000, 1000, 0}};
        for (int[] row : rows) {
            Run x = entered(row[0], row[1]);
            C.due(x, "on the day of the ENTRY", x.told(0, 0, 10), 0);
            x.days(row[2]);
            account(x, 0, row[0], row[3], 0);
        }
    }

    private static void interestOfAllDaysTogether() {
        C.says("all days since the last payment (or ENTRY) together, rounded down");
        Run x = entered(1000, 700);
        int[] want = {0, 1, 2, 2, 3, 4, 4, 5, 6, 7};
        for (int day = 0; day < want.length; day++) {
            x.days(1);
            account(x, 0, 1000, want[day], 0);
        }
    }

    private static void interestSinceTheLastPayment() {
        C.says("since the last payment (or ENTRY)");
        Run x = entered(1000, 700);
        x.days(1);
        C.due(x, "0.7 is 0", x.pay(0, 0, 1), 1);
        account(x, 1, 999, 0, 0);
        x.days(1);
        account(x, 1, 999, 0, 0);
        x.days(1);
        account(x, 1, 999, 1, 0);
        C.due(x, x.pay(0, 0, 1), 1);
        account(x, 1, 999, 0, 1);
        C.due(x, "again on the same day", x.pay(0, 0, 1), 1);
        account(x, 2, 998, 0, 1);
        Run y = entered(1000, 700);
        y.days(1);
        C.refused(y, OUTSIDE, () -> y.pay(0, 0, 0));
        y.days(1);
        C.due(y, "a payment that was refused is none", y.told(0, 0, 10), 1);
    }

    private static void interestKeptApart() {
        C.says("rounded down, kept apart");
        Run x = entered(1000, 1500);
        x.days(3);
        account(x, 0, 1000, 4, 0);
        C.due(x, x.pay(0, 0, 1), 1);
        account(x, 0, 1000, 3, 1);
        x.days(1);
        account(x, 0, 1000, 4, 1);
        C.due(x, x.pay(0, 0, 2), 2);
        account(x, 0, 1000, 2, 3);
        x.days(1);
        account(x, 0, 1000, 3, 3);
        C.due(x, x.pay(0, 0, 503), 503);
        account(x, 500, 500, 0, 6);
        x.days(2);
        account(x, 500, 500, 1, 6);
    }

    private static void interestWithoutInterest() {
        C.says("INTEREST comes each day of what is OWED, without interest of interest");
        Run x = entered(1000, 10000);
        x.days(1000);
        account(x, 0, 1000, 10000, 0);
        C.due(x, x.pay(0, 0, 1), 1);
        x.days(1000);
        account(x, 0, 1000, 19999, 1);
        x.days(1000);
        account(x, 0, 1000, 29999, 1);
    }

    private static void interestByTheRateOfTheEntry() {
        C.says("(RATE 3 as it was at the ENTRY)");
        Run x = Stage.OBJECTED.run();
        x.days(5);
        x.rate(3, 1000);
        x.enter();
        x.rate(3, 10000);
        x.days(100);
        x.hear(1, false);
        x.enter();
        x.rate(3, 0);
        C.due(x, "159 by a thousandth a day", x.told(0, 0, 10), 15);
        C.due(x, "none yet", x.told(0, 1, 10), 0);
        x.days(100);
        C.due(x, x.told(0, 0, 10), 31);
        C.due(x, "92 by a hundredth a day", x.told(0, 1, 10), 92);
        x.pay(0, 1, 1);
        x.rate(3, 10000);
        x.days(1);
        C.due(x, "0.92 is 0", x.told(0, 1, 10), 91);
        C.due(x, "31.959 is 31", x.told(0, 0, 10), 31);
    }

    private static void interestOfWhatIsOwed() {
        C.says("8 paid of DUE, 9 what is OWED (DUE less that)");
        Run x = entered(1000, 1000);
        C.due(x, x.pay(0, 0, 999), 999);
        account(x, 999, 1, 0, 0);
        x.days(999);
        account(x, 999, 1, 0, 0);
        x.days(1);
        account(x, 999, 1, 1, 0);
        C.due(x, x.pay(0, 0, 1), 1);
        account(x, 999, 1, 0, 1);
        C.due(x, x.pay(0, 0, 1), 1);
        account(x, 1000, 0, 0, 1);
        x.days(1000);
        account(x, 1000, 0, 0, 1);
        C.due(x, "DUE stays", x.told(0, 0, 7), 1000);
    }

    private static void interestOnTheLastDay() {
        C.says("10 INTEREST not paid on THE DAY, 11 INTEREST paid");
        Run x = entered(1000, 10000);
        for (int i = 0; i < 10; i++) {
            x.days(1000);
        }
        account(x, 0, 1000, 100000, 0);
        C.refused(x, OUTSIDE, () -> x.days(1));
        account(x, 0, 1000, 100000, 0);
        C.due(x, x.pay(0, 0, MOST), 101000);
        account(x, 1000, 0, 0, 100000);
        C.due(x, x.undo(), 101000);
    }

    // ---- promise 19

    private static void toldOfEachState() {
        C.says("1 state (0 NOTICED, 1 OBJECTED to, 2 kept, 3 STRUCK OUT, 4 ENTERED)");
        Stage[] stages = {Stage.MADE, Stage.OBJECTED, Stage.KEPT, Stage.STRUCK_OUT, Stage.DONE};
        for (int state = 0; state < 5; state++) {
            Run x = stages[state].run();
            C.told(x, 0, 1, 0, 1, state);
            if (state < 4) {
                C.told(x, 0, 1, 2, 0, 0, 0, 0, 0, 0, 0, 0, 0, 0, 1, 0);
            } else {
                C.told(x, 0, 1, 2, 7, 40, 40, 14, 2, 92, 0, 92, 0, 0, 1, 69);
            }
        }
        Run x = Stage.DONE.run();
        C.told(x, 0, 0, 0, 0, 4, 7, 100, 50, 14, 5, 159, 0, 159, 0, 0, 1, 0);
        x.days(10);
        C.told(x, 0, 0, 8, 0, 159, 1, 0);
    }

    private static void toldNothingAheadOfTheEntry() {
        C.says("(2 to 11 and 13: 0, if not ENTERED)");
        for (Stage stage : Stage.values()) {
            if (stage.hasOrder() && stage != Stage.DONE) {
                Run x = stage.run();
                x.days(1000);
                C.told(x, 0, 1, 2, 0, 0, 0, 0, 0, 0, 0, 0, 0, 0, 1, 0);
            }
        }
    }

    private static void toldWhat() {
        C.says("UNKNOWN (as -101): o, k; OUTSIDE.");
        for (Stage stage : new Stage[] {Stage.MADE, Stage.DONE}) {
            Run x = stage.run();
            for (int bad : Checks.beyond(0, 13)) {
                C.refused(x, OUTSIDE, () -> x.told(0, 0, bad));
                C.refused(x, UNKNOWN, () -> x.told(0, 2, bad));
                C.refused(x, UNKNOWN, () -> x.told(1, 0, bad));
            }
        }
    }

    private static void toldOfOrdersAndCases() {
        C.says("Of CASE k of ORDER o: what = 0 FIELD");
        Run x = Stage.DONE.run();
        for (int bad : new int[] {-1, 1, 59, 60, MIN, MAX}) {
            C.refused(x, UNKNOWN, () -> x.told(bad, 0, 0));
            C.refused(x, UNKNOWN, () -> x.gets(bad, 0, 0));
        }
        for (int bad : new int[] {-1, 2, 11, 12, MIN, MAX}) {
            C.refused(x, UNKNOWN, () -> x.told(0, bad, 0));
            C.refused(x, UNKNOWN, () -> x.gets(0, bad, 0));
        }
        C.due(x, x.told(0, 0, 0), 0);
        C.due(x, x.told(0, 1, 0), 1);
        x.choose(0, 1);
        x.make();
        C.due(x, "the first CASE of the second ORDER", x.told(1, 0, 0), 1);
        C.due(x, x.told(1, 1, 0), UNKNOWN);
        C.due(x, x.told(2, 0, 0), UNKNOWN);
    }

    // ---- promise 20

    private static void getsRights() {
        C.says("What RIGHT r gets of CASE k of ORDER o (0: not ENTERED). UNKNOWN (as -101): o, k, r.");
        Run x = Stage.DONE.run();
        C.due(x, x.gets(0, 0, 0), 150);
        C.due(x, x.gets(0, 0, 1), 9);
        C.due(x, x.gets(0, 1, 0), 23);
        for (int bad : new int[] {-1, 2, 3, 4, MIN, MAX}) {
            C.refused(x, UNKNOWN, () -> x.gets(0, 0, bad));
        }
        C.refused(x, UNKNOWN, () -> x.gets(0, 1, 1));
        C.refused(x, UNKNOWN, () -> x.gets(1, 2, -1));
        Run none = entered(10, 0);
        C.refused(none, UNKNOWN, () -> none.gets(0, 0, 0));
        Run four = new Run();
        four.field();
        four.cell(0, 0, 0, 0);
        four.price(0, 0, 100);
        for (int r = 0; r < 4; r++) {
            four.right(0, 2, 100 + r * 10);
        }
        four.takeNow(0, 0);
        for (int r = 0; r < 4; r++) {
            C.due(four, four.gets(0, 0, r), 10 + r);
        }
        C.refused(four, UNKNOWN, () -> four.gets(0, 0, 4));
        C.refused(four, UNKNOWN, () -> four.gets(0, 0, -1));
    }

    private static void getsOfEachState() {
        C.says("(0: not ENTERED)");
        for (Stage stage : Stage.values()) {
            Run x = stage.run();
            if (stage.hasOrder()) {
                C.due(x, x.gets(0, 1, 0), stage == Stage.DONE ? 23 : 0);
                C.refused(x, UNKNOWN, () -> x.gets(0, 1, 1));
            } else {
                C.refused(x, UNKNOWN, () -> x.gets(0, 1, 0));
            }
        }
    }
}
