/** Promises 18 to 20: pay, told, gets. */
public final class MoneyTest {
    private static final Checks C = new Checks("MoneyTest");
    private static final int UNKNOWN = LandTaken.UNKNOWN, OUTSIDE = LandTaken.OUTSIDE, STATE = LandTaken.STATE;

    public static void main(String[] args) {
        refusals();
        interestFirst();
        interestRoundedDownFromPaymentToPayment();
        noInterestOfInterest();
        told();
        gets();
        C.end();
    }

    /** Two FIELDS of two CELLS each, 1000 a CELL; an ORDER over one CELL of each, FIELD 1 OBJECTED to. */
    private static Run halfEntered(int interest) {
        Run x = new Run();
        x.map(2, 2);
        x.field();
        x.field();
        x.row(0, 0, 1, 0, 0);
        x.row(1, 0, 1, 1, 0);
        x.right(1, 2, 250);
        x.price(0, 0, 1000);
        x.rate(3, interest);
        x.rate(4, 5);
        x.line(0, 0, true);
        x.line(0, 1, true);
        x.make();
        x.object(1);
        x.days(5);
        x.enter();
        return x;
    }

    private static void refusals() {
        Run x = halfEntered(100);
        x.days(7);
        C.refused(x, "pay(1, 0, 1)", UNKNOWN, () -> x.pay(1, 0, 1));
        C.refused(x, "pay(-1, 0, 0): UNKNOWN first", UNKNOWN, () -> x.pay(-1, 0, 0));
        C.refused(x, "pay(0, 2, 1)", UNKNOWN, () -> x.pay(0, 2, 1));
        C.refused(x, "pay(0, -1, 1)", UNKNOWN, () -> x.pay(0, -1, 1));
        C.refused(x, "pay(0, 0, 0)", OUTSIDE, () -> x.pay(0, 0, 0));
        C.refused(x, "pay(0, 0, -1)", OUTSIDE, () -> x.pay(0, 0, -1));
        C.refused(x, "pay(0, 0, 1000000001)", OUTSIDE, () -> x.pay(0, 0, 1000000001L));
        C.refused(x, "pay(0, 0, MIN)", OUTSIDE, () -> x.pay(0, 0, Long.MIN_VALUE));
        C.refused(x, "pay(0, 1, 0), not ENTERED: OUTSIDE first", OUTSIDE, () -> x.pay(0, 1, 0));
        C.refused(x, "pay(0, 1, 1), OBJECTED to", STATE, () -> x.pay(0, 1, 1));
        x.hear(1, false);
        C.refused(x, "pay(0, 1, 1), kept", STATE, () -> x.pay(0, 1, 1));
        x.enter();
        C.due("pay(0, 1, 1)", x.pay(0, 1, 1), 1);
        C.due("pay(0, 0, 1000000000)", x.pay(0, 0, 1000000000L), 1000);

        Run y = halfEntered(0);
        y.hear(1, true);
        C.refused(y, "pay(0, 1, 1), STRUCK OUT", STATE, () -> y.pay(0, 1, 1));
        C.due("pay for a CASE of an ORDER that is DONE", y.pay(0, 0, 1), 1);
        Run z = halfEntered(0);
        C.due("pay for a CASE of an ORDER that is not DONE", z.pay(0, 0, 999), 999);
        y.line(1, 0, true);
        y.make();
        C.refused(y, "pay(1, 0, 1), NOTICED", STATE, () -> y.pay(1, 0, 1));
    }

    private static void money(Run x, long paid, long owed, long interest, long interestPaid) {
        C.due("paid of DUE", x.told(0, 0, 8), paid);
        C.due("OWED", x.told(0, 0, 9), owed);
        C.due("INTEREST not paid", x.told(0, 0, 10), interest);
        C.due("INTEREST paid", x.told(0, 0, 11), interestPaid);
    }

    private static void interestFirst() {
        Run x = halfEntered(1000);
        money(x, 0, 1000, 0, 0);
        x.days(1);
        money(x, 0, 1000, 1, 0);
        x.days(49);
        money(x, 0, 1000, 50, 0);
        C.due("pay less than INTEREST", x.pay(0, 0, 20), 20);
        money(x, 0, 1000, 30, 20);
        x.days(10);
        money(x, 0, 1000, 40, 20);
        C.due("pay INTEREST and some of DUE", x.pay(0, 0, 540), 540);
        money(x, 500, 500, 0, 60);
        x.days(10);
        money(x, 500, 500, 5, 60);
        C.due("pay more than both", x.pay(0, 0, 506), 505);
        money(x, 1000, 0, 0, 65);
        x.days(1000);
        money(x, 1000, 0, 0, 65);
        C.due("pay when nothing is OWED", x.pay(0, 0, 5), 0);
        x.hear(1, true);
        C.due("undo()", x.undo(), 1065);
    }

    private static void interestRoundedDownFromPaymentToPayment() {
        Run x = halfEntered(700);
        x.days(1);
        money(x, 0, 1000, 0, 0);
        C.due("pay(0, 0, 1): INTEREST of 0.7 is 0", x.pay(0, 0, 1), 1);
        money(x, 1, 999, 0, 0);
        x.days(1);
        money(x, 1, 999, 0, 0);
        x.days(1);
        // 999 * 700 * 2 is 1.3986 millions: the days ahead of the payment are gone.
        money(x, 1, 999, 1, 0);
        x.days(1);
        money(x, 1, 999, 2, 0);
        C.due("pay(0, 0, 1)", x.pay(0, 0, 1), 1);
        money(x, 1, 999, 1, 1);
        x.days(1);
        money(x, 1, 999, 1, 1);
        x.days(1);
        money(x, 1, 999, 2, 1);
        Run y = halfEntered(700);
        y.days(1);
        C.refused(y, "a payment refused does not end the days", OUTSIDE, () -> y.pay(0, 0, 0));
        y.days(1);
        money(y, 0, 1000, 1, 0);
    }

    private static void noInterestOfInterest() {
        Run x = halfEntered(10000);
        x.days(100);
        money(x, 0, 1000, 1000, 0);
        C.due("pay(0, 0, 1)", x.pay(0, 0, 1), 1);
        x.days(100);
        money(x, 0, 1000, 1999, 1);
        x.rate(3, 0);
        x.days(1);
        money(x, 0, 1000, 2009, 1);
    }

    private static void told() {
        Run x = halfEntered(10000);
        long[] entered = {0, 4, 5, 1000, 0, 0, 0, 1000, 0, 1000, 0, 0, 1, 1000};
        long[] objected = {1, 1, 0, 0, 0, 0, 0, 0, 0, 0, 0, 0, 1, 0};
        x.rate(0, 0);
        for (int what = 0; what < 14; what++) {
            C.due("told(0, 0, " + what + ")", x.told(0, 0, what), entered[what]);
            C.due("told(0, 1, " + what + ")", x.told(0, 1, what), objected[what]);
        }
        x.days(10);
        C.due("told(0, 1, 10): no INTEREST ahead of the ENTRY", x.told(0, 1, 10), 0);
        x.hear(1, false);
        C.due("told(0, 1, 1)", x.told(0, 1, 1), 2);
        x.enter();
        C.due("told(0, 1, 10): none on the day of the ENTRY", x.told(0, 1, 10), 0);
        C.due("told(0, 1, 2)", x.told(0, 1, 2), 15);
        C.due("told(1, 0, 0)", x.told(1, 0, 0), UNKNOWN);
        C.due("told(-1, 0, 0)", x.told(-1, 0, 0), UNKNOWN);
        C.due("told(0, 2, 0)", x.told(0, 2, 0), UNKNOWN);
        C.due("told(0, -1, 0)", x.told(0, -1, 0), UNKNOWN);
        C.due("told(0, 2, 14): UNKNOWN first", x.told(0, 2, 14), UNKNOWN);
        C.due("told(0, 0, 14)", x.told(0, 0, 14), OUTSIDE);
        C.due("told(0, 0, -1)", x.told(0, 0, -1), OUTSIDE);
        C.due("told(MIN, MAX, 0)", x.told(Integer.MIN_VALUE, Integer.MAX_VALUE, 0), UNKNOWN);
    }

    private static void gets() {
        Run x = halfEntered(0);
        C.due("gets(0, 1, 0): not ENTERED", x.gets(0, 1, 0), 0);
        C.due("gets(0, 0, 0): no RIGHTS", x.gets(0, 0, 0), UNKNOWN);
        C.due("gets(0, 1, 1)", x.gets(0, 1, 1), UNKNOWN);
        C.due("gets(0, 1, -1)", x.gets(0, 1, -1), UNKNOWN);
        C.due("gets(1, 0, 0)", x.gets(1, 0, 0), UNKNOWN);
        C.due("gets(-1, 0, 0)", x.gets(-1, 0, 0), UNKNOWN);
        C.due("gets(0, 2, 0)", x.gets(0, 2, 0), UNKNOWN);
        x.hear(1, false);
        x.enter();
        C.due("gets(0, 1, 0)", x.gets(0, 1, 0), 250);
        C.due("told(0, 1, 13)", x.told(0, 1, 13), 750);
    }
}
