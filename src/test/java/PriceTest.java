/** Promises 8 to 11: price, costs, rate, days. */
public final class PriceTest {
    private static final Checks C = new Checks("PriceTest");
    private static final int UNKNOWN = LandTaken.UNKNOWN, OUTSIDE = LandTaken.OUTSIDE, FULL = LandTaken.FULL;

    public static void main(String[] args) {
        price();
        priceFull();
        costs();
        rate();
        days();
        atAnyTime();
        C.end();
    }

    private static void price() {
        Run x = new Run();
        C.due("price(0, 7, 70)", x.price(0, 7, 70), 1);
        C.due("price(0, 3, 30)", x.price(0, 3, 30), 2);
        C.due("price(0, 5, 50)", x.price(0, 5, 50), 3);
        C.due("price(1, 0, 1): each SOIL has its own", x.price(1, 0, 1), 1);
        C.due("price(0, 5, 55) for the same day", x.price(0, 5, 55), 3);
        int[] want = {0, 0, 0, 30, 30, 55, 55, 70, 70};
        for (int day = 0; day < want.length; day++) {
            C.due("costs(0, " + day + ")", x.costs(0, day), want[day]);
        }
        C.due("costs(1, 10000)", x.costs(1, 10000), 1);
        C.due("costs(2, 10000)", x.costs(2, 10000), 0);
        C.due("price 0 holds too", x.price(0, 8, 0), 4);
        C.due("costs(0, 9)", x.costs(0, 9), 0);
        C.refused(x, "price(4, 0, 0)", UNKNOWN, () -> x.price(4, 0, 0));
        C.refused(x, "price(-1, -1, 0): UNKNOWN first", UNKNOWN, () -> x.price(-1, -1, 0));
        C.refused(x, "price(0, -1, 0)", OUTSIDE, () -> x.price(0, -1, 0));
        C.refused(x, "price(0, 10001, 0)", OUTSIDE, () -> x.price(0, 10001, 0));
        C.refused(x, "price(0, 0, -1)", OUTSIDE, () -> x.price(0, 0, -1));
        C.refused(x, "price(0, 0, 100001)", OUTSIDE, () -> x.price(0, 0, 100001));
        C.due("price(3, 10000, 100000)", x.price(3, 10000, 100000), 1);
        C.due("costs(3, 9999)", x.costs(3, 9999), 0);
        C.due("costs(3, 10000)", x.costs(3, 10000), 100000);
    }

    private static void priceFull() {
        Run x = new Run();
        for (int i = 0; i < 20; i++) {
            C.due("price of day " + i, x.price(2, 40 - 2 * i, i), i + 1);
        }
        C.refused(x, "price of a 21st day", FULL, () -> x.price(2, 41, 5));
        C.refused(x, "price of a 21st day, OUTSIDE first", OUTSIDE, () -> x.price(2, 41, -5));
        C.due("price of a day told already", x.price(2, 2, 99), 20);
        C.due("costs(2, 3)", x.costs(2, 3), 99);
        C.due("costs(2, 41)", x.costs(2, 41), 0);
        C.due("another SOIL is not full", x.price(1, 41, 5), 1);
    }

    private static void costs() {
        Run x = new Run();
        C.due("costs(0, 0)", x.costs(0, 0), 0);
        x.price(0, 0, 4);
        C.due("costs(0, 0) told", x.costs(0, 0), 4);
        C.due("costs(4, 0)", x.costs(4, 0), UNKNOWN);
        C.due("costs(-1, 10001): UNKNOWN first", x.costs(-1, 10001), UNKNOWN);
        C.due("costs(0, -1)", x.costs(0, -1), OUTSIDE);
        C.due("costs(0, 10001)", x.costs(0, 10001), OUTSIDE);
    }

    private static void rate() {
        int[] most = {1000, 100000, 1000, 10000, 1000};
        Run x = new Run();
        for (int i = 0; i < 5; i++) {
            int k = i;
            C.due("rate(" + k + ", most)", x.rate(k, most[k]), k == 4 ? 28 : 0);
            C.refused(x, "rate(" + k + ", most + 1)", OUTSIDE, () -> x.rate(k, most[k] + 1));
            C.refused(x, "rate(" + k + ", -1)", OUTSIDE, () -> x.rate(k, -1));
            C.due("rate(" + k + ", 0)", x.rate(k, 0), most[k]);
            C.due("rate(" + k + ", 3)", x.rate(k, 3), 0);
        }
        C.refused(x, "rate(5, 0)", UNKNOWN, () -> x.rate(5, 0));
        C.refused(x, "rate(-1, -1): UNKNOWN first", UNKNOWN, () -> x.rate(-1, -1));
    }

    private static void days() {
        Run x = new Run();
        C.due("days(1)", x.days(1), 1);
        C.refused(x, "days(0)", OUTSIDE, () -> x.days(0));
        C.refused(x, "days(-1)", OUTSIDE, () -> x.days(-1));
        C.refused(x, "days(1001)", OUTSIDE, () -> x.days(1001));
        C.refused(x, "days(MAX)", OUTSIDE, () -> x.days(Integer.MAX_VALUE));
        for (int i = 1; i < 10; i++) {
            C.due("days(1000)", x.days(1000), 1000 * i + 1);
        }
        C.refused(x, "days(1000) above 10000", OUTSIDE, () -> x.days(1000));
        C.due("days(999)", x.days(999), 10000);
        C.refused(x, "days(1) above 10000", OUTSIDE, () -> x.days(1));
        C.due("count(5)", x.count(5), 10000);
    }

    private static void atAnyTime() {
        Run x = new Run();
        x.field();
        x.cell(0, 0, 0, 0);
        x.line(0, 0, true);
        x.make();
        C.due("price while an ORDER is MADE", x.price(0, 1, 5), 1);
        C.due("rate while an ORDER is MADE", x.rate(3, 5), 0);
        C.due("days while an ORDER is MADE", x.days(28), 28);
        x.enter();
        C.due("price behind an ORDER", x.price(0, 1, 6), 1);
        C.due("rate behind an ORDER", x.rate(3, 6), 5);
        C.due("days behind an ORDER", x.days(1), 29);
    }
}
