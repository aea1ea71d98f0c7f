/** Promises 8 to 11 at their bounds: each sentence that names one has a test of its own. */
public final class PriceBoundsTest {
    private static final Checks C = new Checks("PriceBoundsTest");
    private static final int UNKNOWN = LandTaken.UNKNOWN, OUTSIDE = LandTaken.OUTSIDE, FULL = LandTaken.FULL;
    private static final int[] MOST_RATE = {1000, 100000, 1000, 10000, 1000};

    public static void main(String[] args) {
        priceOfASoil();
        priceFromADay();
        priceACell();
        priceReasons();
        priceLatestHolds();
        priceForTheSameDay();
        priceNone();
        priceTwentyDays();
        priceTwentyDaysOfEachSoil();
        costsBounds();
        rateBounds();
        rateAtFirst();
        rateUnknown();
        theDayAtFirst();
        daysBounds();
        daysToTheLast();
        daysBothReasons();
        atAnyTime();
        C.end();
    }

    // ---- promise 8

    private static void priceOfASoil() {
        C.says("how many days they are told for. UNKNOWN: soil");
        Run x = new Run();
        for (int bad : Checks.beyond(0, 3)) {
            C.refused(x, UNKNOWN, () -> x.price(bad, 0, 1));
        }
        for (int soil = 0; soil < 4; soil++) {
            C.due(x, x.price(soil, 5, 10 + soil), 1);
        }
        for (int soil = 0; soil < 4; soil++) {
            C.due(x, x.costs(soil, 5), 10 + soil);
            C.due(x, x.costs(soil, 4), 0);
        }
    }

    private static void priceFromADay() {
        C.says("PRICES of a SOIL: told from a day on (0 to 10000)");
        Run x = new Run();
        for (int bad : Checks.beyond(0, 10000)) {
            C.refused(x, OUTSIDE, () -> x.price(0, bad, 1));
        }
        C.due(x, x.price(0, 10000, 7), 1);
        C.due(x, x.costs(0, 10000), 7);
        C.due(x, x.costs(0, 9999), 0);
        C.due(x, x.price(0, 0, 3), 2);
        C.due(x, x.costs(0, 0), 3);
        C.due(x, x.costs(0, 9999), 3);
        C.due(x, x.costs(0, 10000), 7);
        x.days(1000);
        C.due(x, "from a day gone by", x.price(0, 999, 5), 3);
        C.due(x, x.costs(0, 998), 3);
        C.due(x, x.costs(0, 999), 5);
    }

    private static void priceACell() {
        C.says("0 to 100000 a CELL");
        Run x = new Run();
        for (int bad : Checks.beyond(0, 100000)) {
            C.refused(x, OUTSIDE, () -> x.price(3, 0, bad));
        }
        C.due(x, x.price(3, 0, 100000), 1);
        C.due(x, x.costs(3, 0), 100000);
        C.due(x, x.price(3, 1, 0), 2);
        C.due(x, "a price of 0 holds", x.costs(3, 1), 0);
        C.due(x, x.costs(3, 10000), 0);
    }

    private static void priceReasons() {
        C.says("UNKNOWN: soil; OUTSIDE: day, price; FULL: 20 days.");
        Run x = new Run();
        for (int day = 0; day < 20; day++) {
            x.price(1, day, day);
        }
        C.refused(x, UNKNOWN, () -> x.price(4, -1, -1));
        C.refused(x, UNKNOWN, () -> x.price(-1, 10001, 0));
        C.refused(x, UNKNOWN, () -> x.price(-1, 0, 100001));
        C.refused(x, OUTSIDE, () -> x.price(1, -1, 100001));
        C.refused(x, OUTSIDE, () -> x.price(1, 10001, 1));
        C.refused(x, OUTSIDE, () -> x.price(1, 50, -1));
        C.refused(x, OUTSIDE, () -> x.price(1, 5, 100001));
        C.refused(x, FULL, () -> x.price(1, 50, 1));
    }

    private static void priceLatestHolds() {
        C.says("on a day the latest told from that day or ahead of it holds");
        int[][] orders = {{10, 20, 30}, {30, 20, 10}, {20, 30, 10}, {20, 10, 30}};
        for (int[] days : orders) {
            Run x = new Run();
            for (int day : days) {
                x.price(2, day, day * 7);
            }
            int[] asked = {0, 9, 10, 11, 19, 20, 21, 29, 30, 31, 10000};
            int[] want = {0, 0, 70, 70, 70, 140, 140, 140, 210, 210, 210};
            for (int i = 0; i < asked.length; i++) {
                C.due(x, x.costs(2, asked[i]), want[i]);
            }
        }
    }

    private static void priceForTheSameDay() {
        C.says("(told later for the same day: instead)");
        Run x = new Run();
        C.due(x, x.price(0, 10, 1), 1);
        C.due(x, x.price(0, 20, 2), 2);
        C.due(x, x.price(0, 10, 3), 2);
        C.due(x, x.costs(0, 10), 3);
        C.due(x, x.costs(0, 19), 3);
        C.due(x, "it is not later than day 20", x.costs(0, 20), 2);
        C.due(x, x.price(0, 20, 0), 2);
        C.due(x, x.costs(0, 20), 0);
        C.due(x, "another SOIL's is not meant", x.price(1, 10, 9), 1);
        C.due(x, x.costs(0, 10), 3);
    }

    private static void priceNone() {
        C.says("0, if none is");
        Run x = new Run();
        C.due(x, x.costs(0, 0), 0);
        C.due(x, x.costs(0, 10000), 0);
        x.price(0, 1, 5);
        C.due(x, x.costs(0, 0), 0);
        C.due(x, x.costs(0, 1), 5);
        C.due(x, x.costs(1, 1), 0);
    }

    private static void priceTwentyDays() {
        C.says("FULL: 20 days.");
        Run x = new Run();
        for (int i = 0; i < 20; i++) {
            C.due(x, x.price(2, 40 - 2 * i, i + 1), i + 1);
        }
        C.refused(x, FULL, () -> x.price(2, 0, 5));
        C.refused(x, FULL, () -> x.price(2, 3, 5));
        C.refused(x, FULL, () -> x.price(2, 41, 5));
        C.refused(x, FULL, () -> x.price(2, 10000, 5));
        C.due(x, "the first told", x.price(2, 40, 98), 20);
        C.due(x, "the last told", x.price(2, 2, 99), 20);
        C.due(x, x.costs(2, 41), 98);
        C.due(x, x.costs(2, 3), 99);
        C.due(x, x.costs(2, 1), 0);
        C.refused(x, FULL, () -> x.price(2, 41, 5));
    }

    private static void priceTwentyDaysOfEachSoil() {
        C.says("how many days they are told for");
        Run x = new Run();
        for (int day = 0; day < 20; day++) {
            for (int soil = 0; soil < 4; soil++) {
                C.due(x, x.price(soil, day, soil), day + 1);
            }
        }
        for (int soil = 0; soil < 4; soil++) {
            int s = soil;
            C.refused(x, FULL, () -> x.price(s, 20, 5));
            C.due(x, x.costs(s, 20), s);
        }
        x.map(2, 2);
        C.refused(x, FULL, () -> x.price(0, 20, 5));
    }

    // ---- promise 9

    private static void costsBounds() {
        C.says("The price of a SOIL on a day. UNKNOWN; OUTSIDE: day.");
        Run x = new Run();
        x.price(0, 0, 4);
        x.price(3, 0, 6);
        C.due(x, x.costs(0, 0), 4);
        C.due(x, x.costs(0, 10000), 4);
        C.due(x, x.costs(3, 10000), 6);
        for (int bad : Checks.beyond(0, 3)) {
            C.refused(x, UNKNOWN, () -> x.costs(bad, 0));
            C.refused(x, UNKNOWN, () -> x.costs(bad, -1));
            C.refused(x, UNKNOWN, () -> x.costs(bad, 10001));
        }
        for (int bad : Checks.beyond(0, 10000)) {
            C.refused(x, OUTSIDE, () -> x.costs(0, bad));
            C.refused(x, OUTSIDE, () -> x.costs(3, bad));
        }
    }

    // ---- promise 10

    private static void rateBounds() {
        String[] sentences = {"0 what is cut off loses (thousandths of its price, 0 to 1000; 0 at first)",
            "1 a side of fence (0 to 100000; 0 at first)",
            "(thousandths of the price of what stays with the HOUSE, 0 to 1000; 0 at first)",
            "3 interest (millionths a day, 0 to 10000; 0 at first)", "4 days of notice (0 to 1000; 28 at first)"};
        for (int rate = 0; rate < 5; rate++) {
            C.says(sentences[rate]);
            int k = rate;
            Run x = new Run();
            C.due(x, x.rate(k, MOST_RATE[k]), k == 4 ? 28 : 0);
            for (int bad : Checks.beyond(0, MOST_RATE[k])) {
                C.refused(x, OUTSIDE, () -> x.rate(k, bad));
            }
            C.due(x, x.rate(k, 0), MOST_RATE[k]);
            for (int bad : Checks.beyond(0, MOST_RATE[k])) {
                C.refused(x, OUTSIDE, () -> x.rate(k, bad));
            }
            C.due(x, x.rate(k, 1), 0);
        }
    }

    private static void rateAtFirst() {
        C.says("A RATE becomes v: what it was.");
        Run x = new Run();
        for (int k = 0; k < 5; k++) {
            C.due(x, x.rate(k, 100 + k), k == 4 ? 28 : 0);
        }
        for (int k = 0; k < 5; k++) {
            C.due(x, "each RATE is its own", x.rate(k, 100 + k), 100 + k);
            C.due(x, "the same again", x.rate(k, 0), 100 + k);
        }
    }

    private static void rateUnknown() {
        C.says("UNKNOWN: k; OUTSIDE.");
        Run x = Stage.MADE.run();
        for (int bad : Checks.beyond(0, 4)) {
            C.refused(x, UNKNOWN, () -> x.rate(bad, 0));
            C.refused(x, UNKNOWN, () -> x.rate(bad, -1));
            C.refused(x, UNKNOWN, () -> x.rate(bad, 100001));
        }
    }

    // ---- promise 11

    private static void theDayAtFirst() {
        C.says("THE DAY goes on (0 at first).");
        Run x = new Run();
        C.due(x, x.count(5), 0);
        C.due(x, x.days(1), 1);
        C.due(x, x.days(2), 3);
        C.due(x, x.count(5), 3);
    }

    private static void daysBounds() {
        C.says("n days (1 to 1000) go by: THE DAY.");
        Run x = Stage.PARTLY_ENTERED.run();
        for (int bad : Checks.beyond(1, 1000)) {
            C.refused(x, OUTSIDE, () -> x.days(bad));
        }
        C.refused(x, OUTSIDE, () -> x.days(-7));
        C.refused(x, OUTSIDE, () -> x.days(-1));
        C.due(x, x.days(1), 8);
        C.due(x, x.days(1000), 1008);
    }

    private static void daysToTheLast() {
        C.says("OUTSIDE: n, or it would be above 10000.");
        Run x = new Run();
        for (int i = 1; i < 10; i++) {
            C.due(x, x.days(1000), 1000 * i);
        }
        C.due(x, x.days(999), 9999);
        C.refused(x, OUTSIDE, () -> x.days(2));
        C.refused(x, OUTSIDE, () -> x.days(1000));
        C.due(x, x.days(1), 10000);
        C.refused(x, OUTSIDE, () -> x.days(1));
        C.refused(x, OUTSIDE, () -> x.days(1000));
        C.due(x, x.count(5), 10000);
        Run y = new Run();
        for (int i = 1; i <= 10; i++) {
            C.due(y, y.days(1000), 1000 * i);
        }
        C.refused(y, OUTSIDE, () -> y.days(1));
    }

    private static void daysBothReasons() {
        C.says("n days (1 to 1000) go by: THE DAY. OUTSIDE: n, or it would be above 10000.");
        Run x = new Run();
        for (int i = 0; i < 10; i++) {
            x.days(1000);
        }
        C.refused(x, OUTSIDE, () -> x.days(1001));
        C.refused(x, OUTSIDE, () -> x.days(Checks.MAX));
        C.refused(x, OUTSIDE, () -> x.days(Checks.MIN));
        C.refused(x, OUTSIDE, () -> x.days(0));
        C.refused(x, OUTSIDE, () -> x.days(-1));
    }

    // ---- prices, rates, days: at any time

    private static void atAnyTime() {
        C.says("---- prices, rates, days: at any time.");
        for (Stage stage : Stage.values()) {
            Run x = stage.run();
            C.due(x, x.price(0, 1, 5), 2);
            C.due(x, x.costs(0, 1), 5);
            C.due(x, x.price(0, 1, 6), 2);
            C.due(x, x.costs(0, 1), 6);
            C.due(x, x.rate(3, 5), 900);
            C.due(x, x.rate(4, 1000), 5);
            int day = x.count(5);
            C.due(x, x.days(1), day + 1);
            C.refused(x, UNKNOWN, () -> x.price(4, 0, 0));
            C.refused(x, OUTSIDE, () -> x.price(0, 0, 100001));
            C.refused(x, OUTSIDE, () -> x.rate(3, 10001));
            C.refused(x, OUTSIDE, () -> x.days(0));
        }
    }
}
