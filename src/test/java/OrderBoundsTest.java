/** Promises 12 to 17 at their bounds: each sentence that names one has a test of its own. */
public final class OrderBoundsTest {
    private static final Checks C = new Checks("OrderBoundsTest");
    private static final int UNKNOWN = LandTaken.UNKNOWN, OUTSIDE = LandTaken.OUTSIDE, STATE = LandTaken.STATE,
            FULL = LandTaken.FULL;
    private static final int NOTICED = 0, OBJECTED = 1, KEPT = 2, STRUCK_OUT = 3, ENTERED = 4;
    private static final int NOTICE_AT_FIRST = 28;

    public static void main(String[] args) {
        lineNoneAtFirstAndAll();
        lineAtTheEdges();
        lineWhileAnOrderIsMade();
        lineOfTakenCells();
        lineEmptyWhenDone();
        makeOfNone();
        makeByFieldsInOrder();
        makeOfCellsNotTakenYet();
        makeStruckOutAgain();
        makeWhileOneIsNotDone();
        makeSixty();
        makeSixtyReasons();
        objectUpToTheDay();
        objectDaysAsToldThen();
        objectNumbers();
        objectStateAheadOfUnknown();
        objectStates();
        hearNumbers();
        hearReasons();
        hearOnAnyDay();
        enterFromTheDayOn();
        enterDaysAsToldThen();
        enterOnTheLastDayOfAll();
        enterNoSuchOrder();
        enterNoneLeft();
        enterHowMany();
        enterLaterOnes();
        enterTakesWhatIsOfNoField();
        doneWhenEachIsOver();
        undoNone();
        undoNotDone();
        undoGivesBack();
        undoOwesDebtsAgain();
        undoSixty();
        undoLeavesNoCases();
        undoLeavesNothingToTheNext();
        C.end();
    }

    /** So many days go by, none or more than a call lets go by too. */
    private static void pass(Run x, int days) {
        for (int left = days; left > 0; left -= 1000) {
            x.days(Math.min(left, 1000));
        }
    }

    /** Two FIELDS of one CELL each; an ORDER over both is MADE on a day, with so many days of notice. */
    private static Run ordered(int day, int notice) {
        Run x = new Run();
        x.map(2, 1);
        x.field();
        x.field();
        x.cell(0, 0, 0, 0);
        x.cell(1, 0, 1, 0);
        x.price(0, 0, 10);
        if (notice != NOTICE_AT_FIRST) {
            x.rate(4, notice);
        }
        pass(x, day);
        x.choose(0, 0, 1, 0);
        x.make();
        return x;
    }

    /** A FIELD of n CELLS, 16 a row, 10 a CELL, and no days of notice. */
    private static Run longField(int n) {
        Run x = new Run();
        x.map(16, 16);
        x.field();
        for (int place = 0; place < n; place++) {
            x.cell(place % 16, place / 16, 0, 0);
        }
        x.price(0, 0, 10);
        x.rate(4, 0);
        return x;
    }

    /** Twelve FIELDS of one CELL each, the last number in the first column. */
    private static Run twelveFields() {
        Run x = new Run();
        x.map(12, 1);
        for (int f = 0; f < 12; f++) {
            x.field();
        }
        for (int f = 0; f < 12; f++) {
            x.cell(11 - f, 0, f, 0);
            x.line(11 - f, 0, true);
        }
        return x;
    }

    // ---- promise 12

    private static void lineNoneAtFirstAndAll() {
        C.says("THE LINE is a choice of CELLS (none at first)");
        Run x = new Run();
        x.map(16, 16);
        C.due(x, x.count(2), 0);
        for (int place = 0; place < 256; place++) {
            C.due(x, x.line(place % 16, place / 16, true), 0);
        }
        C.due(x, x.count(2), 256);
        C.due(x, x.line(15, 15, true), 1);
        C.due(x, x.count(2), 256);
        C.due(x, x.line(0, 0, false), 1);
        C.due(x, x.line(15, 15, false), 1);
        C.due(x, x.line(15, 15, false), 0);
        C.due(x, x.count(2), 254);
        C.due(x, x.look(15, 15, 4), 0);
        C.due(x, x.look(14, 15, 4), 1);
    }

    private static void lineAtTheEdges() {
        C.says("A CELL is in the LINE, or not: 1 if it was, else 0. UNKNOWN;");
        for (Stage stage : new Stage[] {Stage.NONE_MADE, Stage.MADE, Stage.DONE}) {
            Run x = stage.run();
            for (int bad : Checks.beyond(0, 3)) {
                C.refused(x, UNKNOWN, () -> x.line(bad, 1, true));
                C.refused(x, UNKNOWN, () -> x.line(bad, 2, false));
            }
            for (int bad : Checks.beyond(0, 2)) {
                C.refused(x, UNKNOWN, () -> x.line(1, bad, true));
                C.refused(x, UNKNOWN, () -> x.line(0, bad, false));
            }
        }
        Run x = Stage.NONE_MADE.run();
        int[] corners = {0, 0, 3, 0, 0, 2, 3, 2};
        for (int i = 0; i < 8; i += 2) {
            C.due(x, x.line(corners[i], corners[i + 1], false), 0);
            C.due(x, x.line(corners[i], corners[i + 1], true), 0);
            C.due(x, x.look(corners[i], corners[i + 1], 4), 1);
            C.due(x, x.line(corners[i], corners[i + 1], true), 1);
        }
        C.due(x, x.count(2), 8);
    }

    private static void lineWhileAnOrderIsMade() {
        C.says("which may be changed as long as no ORDER is MADE");
        for (Stage stage : Stage.values()) {
            Run x = stage.run();
            if (stage.isOpen()) {
                C.refused(x, STATE, () -> x.line(1, 0, true));
                C.refused(x, STATE, () -> x.line(1, 0, false));
                C.refused(x, STATE, () -> x.line(1, 1, false));
                C.refused(x, STATE, () -> x.line(1, 2, false));
                C.refused(x, STATE, () -> x.line(0, 0, true));
                C.refused(x, STATE, () -> x.line(0, 0, false));
                C.refused(x, STATE, () -> x.line(3, 2, true));
            } else {
                C.due(x, x.line(0, 0, false), 0);
                C.due(x, x.line(0, 0, true), 0);
                C.due(x, x.line(0, 0, true), 1);
                C.due(x, x.line(0, 0, false), 1);
            }
        }
    }

    private static void lineOfTakenCells() {
        C.says("STATE: an ORDER is MADE and not DONE, or the CELL is TAKEN.");
        int[] taken = {1, 0, 1, 1, 1, 2, 3, 1};
        Run x = Stage.DONE.run();
        for (int i = 0; i < 8; i += 2) {
            int cx = taken[i];
            int cy = taken[i + 1];
            C.refused(x, STATE, () -> x.line(cx, cy, true));
            C.refused(x, STATE, () -> x.line(cx, cy, false));
        }
        x.takeNow(3, 0);
        C.refused(x, STATE, () -> x.line(3, 0, true));
        C.refused(x, STATE, () -> x.line(1, 0, true));
        x.undo();
        C.due(x, x.line(3, 0, true), 0);
        C.refused(x, STATE, () -> x.line(1, 0, true));
        for (Stage stage : new Stage[] {Stage.STRUCK_OUT, Stage.UNDONE}) {
            Run y = stage.run();
            for (int i = 0; i < 8; i += 2) {
                C.due(y, y.line(taken[i], taken[i + 1], true), 0);
            }
        }
        Run z = Stage.PARTLY_ENTERED.run();
        z.hear(1, true);
        C.refused(z, STATE, () -> z.line(1, 0, true));
        C.due(z, "STRUCK OUT, it is not TAKEN", z.line(1, 1, true), 0);
    }

    private static void lineEmptyWhenDone() {
        C.says("then another one may be MADE (60 at most that are not undone), and the LINE is empty");
        for (Stage stage : Stage.values()) {
            Run x = stage.run();
            C.due(x, x.count(2), stage.isOpen() || stage == Stage.NONE_MADE ? 4 : 0);
        }
        Run x = Stage.PARTLY_ENTERED.run();
        x.hear(1, false);
        C.due(x, x.count(2), 4);
        x.enter();
        C.due(x, x.count(2), 0);
        x.choose(0, 0);
        x.undo();
        C.due(x, "a LINE chosen ahead of undo() stays", x.count(2), 1);
    }

    // ---- promise 13

    private static void makeOfNone() {
        C.says("STATE: one is not DONE; OUTSIDE: it would have none; FULL.");
        Run x = new Run();
        x.map(4, 1);
        x.field();
        x.field();
        x.cell(0, 0, 0, 0);
        x.lane(1, 0);
        C.refused(x, OUTSIDE, x::make);
        x.line(1, 0, true);
        C.refused(x, OUTSIDE, x::make);
        x.choose(2, 0, 3, 0);
        C.refused(x, OUTSIDE, x::make);
        x.line(0, 0, true);
        x.line(0, 0, false);
        C.refused(x, OUTSIDE, x::make);
        x.line(0, 0, true);
        C.due(x, x.make(), 1);
        for (Stage stage : new Stage[] {Stage.DONE, Stage.STRUCK_OUT, Stage.UNDONE}) {
            Run y = stage.run();
            C.refused(y, OUTSIDE, y::make);
            y.line(3, 2, true);
            C.refused(y, OUTSIDE, y::make);
        }
    }

    private static void makeByFieldsInOrder() {
        C.says("an ORDER has a CASE for each of them, in order of their numbers");
        Run x = twelveFields();
        C.due(x, x.make(), 12);
        C.due(x, x.count(4), 12);
        for (int k = 0; k < 12; k++) {
            C.due(x, x.told(0, k, 0), k);
            C.due(x, x.told(0, k, 1), NOTICED);
            C.due(x, x.told(0, k, 12), 1);
        }
        C.due(x, x.told(0, 12, 0), UNKNOWN);
        Run y = twelveFields();
        for (int f = 0; f < 12; f++) {
            y.line(11 - f, 0, f == 4 || f == 11);
        }
        C.due(y, y.make(), 2);
        C.due(y, y.told(0, 0, 0), 4);
        C.due(y, y.told(0, 1, 0), 11);
        C.due(y, y.told(0, 2, 0), UNKNOWN);
    }

    private static void makeOfCellsNotTakenYet() {
        C.says("each FIELD with CELLS of it that are not TAKEN yet is NOTICED");
        Run x = Stage.DONE.run();
        x.choose(0, 0, 2, 0, 3, 0);
        C.due(x, x.make(), 1);
        C.due(x, x.told(1, 0, 0), 0);
        C.due(x, x.told(1, 0, 12), 3);
        x.days(5);
        C.due(x, x.enter(), 1);
        C.due(x, "all of it is TAKEN", x.pieces(0), 0);
        C.refused(x, STATE, () -> x.line(0, 0, true));
        C.refused(x, OUTSIDE, x::make);
        x.choose(0, 1);
        C.due(x, x.make(), 1);
        C.due(x, x.told(2, 0, 0), 1);
        C.due(x, x.told(2, 0, 12), 1);
    }

    private static void makeStruckOutAgain() {
        C.says("An ORDER is DONE, when each CASE is ENTERED or STRUCK OUT: then another one may be MADE");
        Run x = Stage.STRUCK_OUT.run();
        x.choose(1, 0, 1, 1);
        C.due(x, x.make(), 2);
        C.due(x, x.told(1, 0, 1), NOTICED);
        C.due(x, x.told(0, 0, 1), STRUCK_OUT);
        C.due(x, x.object(0), 1);
        C.due(x, x.count(3), 2);
    }

    private static void makeWhileOneIsNotDone() {
        C.says("An ORDER is MADE: how many CASES it has. STATE: one is not DONE");
        for (Stage stage : Stage.values()) {
            Run x = stage.run();
            C.due(x, x.count(6), stage.isOpen() ? 1 : 0);
            if (stage.isOpen()) {
                C.refused(x, STATE, x::make);
            } else if (stage != Stage.NONE_MADE) {
                x.choose(0, 0);
                C.due(x, x.make(), 1);
            }
        }
    }

    private static void makeSixty() {
        C.says("(60 at most that are not undone)");
        Run x = longField(1);
        for (int o = 0; o < 60; o++) {
            x.line(0, 0, true);
            C.due(x, x.make(), 1);
            x.object(0);
            x.hear(0, true);
        }
        x.line(0, 0, true);
        C.refused(x, FULL, x::make);
        C.due(x, x.count(3), 60);
        C.due(x, x.told(59, 0, 1), STRUCK_OUT);
        C.due(x, x.told(60, 0, 1), UNKNOWN);
        C.due(x, x.undo(), 0);
        C.due(x, x.make(), 1);
        C.due(x, x.count(3), 60);
        C.due(x, x.count(7), 1);
        C.due(x, x.told(59, 0, 1), NOTICED);
        C.due(x, x.enter(), 1);
        C.due(x, x.undo(), 0);
        C.due(x, x.undo(), 0);
        C.due(x, x.count(3), 58);
        x.line(0, 0, true);
        C.due(x, x.make(), 1);
        C.due(x, x.enter(), 1);
        C.due(x, x.count(3), 59);
    }

    private static void makeSixtyReasons() {
        C.says("of several the first as told by each call");
        Run x = longField(61);
        for (int o = 0; o < 60; o++) {
            x.line(o % 16, o / 16, true);
            C.due(x, x.make(), 1);
            if (o < 59) {
                x.enter();
            }
        }
        C.refused(x, STATE, x::make);
        x.enter();
        C.refused(x, OUTSIDE, x::make);
        x.line(15, 15, true);
        C.refused(x, OUTSIDE, x::make);
        x.line(12, 3, true);
        C.refused(x, FULL, x::make);
        C.due(x, x.count(6), 0);
        C.refused(x, STATE, x::enter);
        C.refused(x, STATE, () -> x.object(0));
    }

    // ---- promise 14

    private static void objectUpToTheDay() {
        C.says("A CASE may be OBJECTED to, up to and with the day behind which the days of notice are over");
        for (int notice : new int[] {0, 1, NOTICE_AT_FIRST, 1000}) {
            for (int day : new int[] {0, 3}) {
                Run x = ordered(day, notice);
                C.due("object(0) on the day of the making", x.again().object(0), 1);
                pass(x, notice);
                C.due(x, x.object(0), 1);
                C.due(x, x.told(0, 0, 1), OBJECTED);
                x.days(1);
                C.refused(x, STATE, () -> x.object(1));
                C.due(x, x.told(0, 1, 1), NOTICED);
                pass(x, 1000);
                C.refused(x, STATE, () -> x.object(1));
            }
        }
    }

    private static void objectDaysAsToldThen() {
        C.says("(as told when the ORDER was MADE: D days behind it)");
        Run x = ordered(0, 10);
        x.rate(4, 0);
        x.days(10);
        C.due(x, x.object(0), 1);
        x.rate(4, 1000);
        x.days(1);
        C.refused(x, STATE, () -> x.object(1));
        Run y = ordered(0, 10);
        y.days(10);
        y.enter();
        y.undo();
        y.rate(4, 2);
        y.choose(0, 0);
        y.make();
        y.days(2);
        C.due("object(0): another ORDER has days of its own", y.again().object(0), 1);
        y.days(1);
        C.refused(y, STATE, () -> y.object(0));
    }

    private static void objectNumbers() {
        C.says("A CASE is OBJECTED to: 1. UNKNOWN: k;");
        Run x = twelveFields();
        x.make();
        for (int bad : Checks.beyond(0, 11)) {
            C.refused(x, UNKNOWN, () -> x.object(bad));
        }
        C.due(x, x.object(0), 1);
        C.due(x, x.object(11), 1);
        for (int k = 0; k < 12; k++) {
            C.due(x, x.told(0, k, 1), k % 11 == 0 ? OBJECTED : NOTICED);
        }
        x.days(29);
        for (int bad : Checks.beyond(0, 11)) {
            C.refused(x, UNKNOWN, () -> x.object(bad));
        }
        C.refused(x, STATE, () -> x.object(1));
        Run y = ordered(0, 0);
        C.refused(y, UNKNOWN, () -> y.object(2));
    }

    private static void objectStateAheadOfUnknown() {
        C.says("(STATE for no ORDER ahead of UNKNOWN.)");
        for (Stage stage : Stage.values()) {
            Run x = stage.run();
            for (int k : new int[] {-1, 2, Checks.MIN, Checks.MAX}) {
                C.refused(x, stage.isOpen() ? UNKNOWN : STATE, () -> x.object(k));
            }
            if (!stage.isOpen()) {
                C.refused(x, STATE, () -> x.object(0));
                C.refused(x, STATE, () -> x.object(1));
            }
        }
    }

    private static void objectStates() {
        C.says("STATE: no ORDER is MADE and not DONE, it is OBJECTED to already, ENTERED, STRUCK OUT, or too late.");
        Run objected = Stage.OBJECTED.run();
        C.refused(objected, STATE, () -> objected.object(1));
        Run kept = Stage.KEPT.run();
        C.refused(kept, STATE, () -> kept.object(1));
        Run entered = Stage.PARTLY_ENTERED.run();
        C.due(entered, "the day is not over", entered.count(5), 7);
        C.refused(entered, STATE, () -> entered.object(0));
        C.refused(entered, STATE, () -> entered.object(1));
        Run struck = Stage.OBJECTED.run();
        struck.hear(1, true);
        C.refused(struck, STATE, () -> struck.object(1));
        C.due(struck, struck.object(0), 1);
        struck.days(6);
        C.refused(struck, STATE, () -> struck.object(1));
        C.refused(struck, STATE, () -> struck.object(0));
    }

    // ---- promise 15

    private static void hearNumbers() {
        C.says("A CASE is HEARD: kept, or STRUCK OUT: 1. STATE: no such ORDER; UNKNOWN: k;");
        for (Stage stage : Stage.values()) {
            Run x = stage.run();
            for (int k : new int[] {-1, 2, Checks.MIN, Checks.MAX}) {
                C.refused(x, stage.isOpen() ? UNKNOWN : STATE, () -> x.hear(k, true));
                C.refused(x, stage.isOpen() ? UNKNOWN : STATE, () -> x.hear(k, false));
            }
            if (!stage.isOpen()) {
                C.refused(x, STATE, () -> x.hear(0, true));
                C.refused(x, STATE, () -> x.hear(1, false));
            }
        }
        Run x = twelveFields();
        x.make();
        x.object(0);
        x.object(11);
        C.due(x, x.hear(0, true), 1);
        C.due(x, x.hear(11, false), 1);
        C.due(x, x.told(0, 0, 1), STRUCK_OUT);
        C.due(x, x.told(0, 11, 1), KEPT);
        C.refused(x, UNKNOWN, () -> x.hear(12, true));
    }

    private static void hearReasons() {
        C.says("STATE: it is not OBJECTED to, HEARD already.");
        Run x = Stage.OBJECTED.run();
        C.refused(x, STATE, () -> x.hear(0, true));
        C.refused(x, STATE, () -> x.hear(0, false));
        C.due(x, x.hear(1, false), 1);
        C.due(x, x.told(0, 1, 1), KEPT);
        C.refused(x, STATE, () -> x.hear(1, false));
        C.refused(x, STATE, () -> x.hear(1, true));
        Run y = Stage.OBJECTED.run();
        C.due(y, y.hear(1, true), 1);
        C.due(y, y.told(0, 1, 1), STRUCK_OUT);
        C.refused(y, STATE, () -> y.hear(1, false));
        C.refused(y, STATE, () -> y.hear(1, true));
        Run z = Stage.PARTLY_ENTERED.run();
        C.refused(z, STATE, () -> z.hear(0, true));
        C.refused(z, STATE, () -> z.hear(0, false));
    }

    private static void hearOnAnyDay() {
        C.says("one that is OBJECTED to has to be HEARD: kept, or STRUCK OUT");
        Run x = ordered(0, 0);
        x.object(0);
        x.object(1);
        C.due(x, "on the day itself", x.hear(0, false), 1);
        pass(x, 10000);
        C.due(x, "on the last day", x.hear(1, false), 1);
        C.due(x, x.enter(), 2);
        C.due(x, x.told(0, 1, 2), 10000);
    }

    // ---- promise 16

    private static void enterFromTheDayOn() {
        C.says("ENTRY of an ORDER, from the day of its making and D on");
        for (int notice : new int[] {0, 1, NOTICE_AT_FIRST, 1000}) {
            for (int day : new int[] {0, 3}) {
                Run x = ordered(day, notice);
                pass(x, notice - 1);
                if (notice > 0) {
                    C.refused(x, STATE, x::enter);
                    x.days(1);
                }
                Run late = x.again();
                pass(late, 1001);
                C.due(late, late.enter(), 2);
                C.due(late, late.told(0, 1, 2), day + notice + 1001);
                C.due(x, x.enter(), 2);
                C.due(x, x.told(0, 0, 2), day + notice);
            }
        }
    }

    private static void enterDaysAsToldThen() {
        C.says("ENTRY of an ORDER, from the day of its making and D on: all CASES");
        Run x = ordered(0, 10);
        x.rate(4, 0);
        x.days(9);
        C.refused(x, STATE, x::enter);
        x.rate(4, 1000);
        x.days(1);
        C.due(x, x.enter(), 2);
    }

    private static void enterOnTheLastDayOfAll() {
        C.says("THE DAY goes on");
        Run x = ordered(9999, 1);
        C.refused(x, STATE, x::enter);
        x.days(1);
        C.due(x, x.enter(), 2);
        C.due(x, x.told(0, 0, 2), 10000);
        Run y = ordered(10000, 1);
        C.refused(y, STATE, y::enter);
        C.refused(y, OUTSIDE, () -> y.days(1));
        C.due(y, y.object(0), 1);
        Run z = ordered(10000, 0);
        C.due(z, z.enter(), 2);
        C.due(z, z.undo(), 0);
    }

    private static void enterNoSuchOrder() {
        C.says("STATE: no such ORDER, too early, there is none to be ENTERED.");
        for (Stage stage : Stage.values()) {
            if (!stage.isOpen()) {
                Run x = stage.run();
                C.refused(x, STATE, x::enter);
                x.days(1000);
                C.refused(x, STATE, x::enter);
            }
        }
        Run early = Stage.KEPT.run();
        C.refused(early, STATE, early::enter);
        early.days(4);
        C.refused(early, STATE, early::enter);
        C.due(early, early.look(1, 2, 3), 0);
    }

    private static void enterNoneLeft() {
        C.says("there is none to be ENTERED");
        Run x = ordered(0, 2);
        x.object(0);
        x.object(1);
        C.refused(x, STATE, x::enter);
        x.days(2);
        C.refused(x, STATE, x::enter);
        x.hear(0, true);
        C.refused(x, STATE, x::enter);
        x.hear(1, false);
        C.due(x, x.enter(), 1);
        C.refused(x, STATE, x::enter);
        Run y = Stage.PARTLY_ENTERED.run();
        C.refused(y, STATE, y::enter);
        y.days(1000);
        C.refused(y, STATE, y::enter);
    }

    private static void enterHowMany() {
        C.says("ENTRY: how many CASES are ENTERED now.");
        Run x = twelveFields();
        x.rate(4, 0);
        x.make();
        C.due("enter() of all", x.again().enter(), 12);
        x.object(0);
        x.object(5);
        x.object(11);
        x.hear(5, false);
        C.due(x, x.enter(), 10);
        C.due(x, x.count(1), 10);
        x.hear(11, true);
        C.refused(x, STATE, x::enter);
        x.hear(0, false);
        C.due(x, x.enter(), 1);
        C.due(x, x.count(1), 11);
        C.due(x, "the first column is FIELD 11's", x.look(0, 0, 3), 0);
        C.due(x, x.count(6), 0);
    }

    private static void enterLaterOnes() {
        C.says("all CASES that are neither STRUCK OUT nor OBJECTED to and not HEARD yet are ENTERED on THE DAY: "
                + "their CELLS of the LINE are TAKEN; others may be ENTERED later");
        Run x = Stage.PARTLY_ENTERED.run();
        C.due(x, x.told(0, 0, 1), ENTERED);
        C.due(x, x.told(0, 1, 1), OBJECTED);
        C.due(x, x.look(1, 0, 3), 1);
        C.due(x, x.look(1, 1, 3), 0);
        C.due(x, x.look(0, 0, 3), 0);
        Run struck = x.again();
        C.due(struck, struck.hear(1, true), 1);
        C.due(struck, struck.told(0, 1, 1), STRUCK_OUT);
        C.due(struck, struck.look(1, 1, 3), 0);
        C.due(struck, struck.told(0, 1, 12), 1);
        x.days(3);
        C.due(x, x.hear(1, false), 1);
        C.due(x, x.look(1, 1, 3), 0);
        C.due(x, x.enter(), 1);
        C.due(x, x.look(1, 1, 3), 1);
        C.due(x, x.told(0, 0, 2), 7);
        C.due(x, x.told(0, 1, 2), 10);
    }

    private static void enterTakesWhatIsOfNoField() {
        C.says("(CELLS of the LINE of no FIELD, LANES too, are TAKEN at an ORDER's first ENTRY)");
        for (Stage stage : Stage.values()) {
            Run x = stage.run();
            int want = stage == Stage.PARTLY_ENTERED || stage == Stage.DONE ? 1 : 0;
            C.due(x, x.look(1, 2, 3), want);
            C.due(x, x.look(3, 1, 3), want);
            C.due(x, "not in the LINE", x.look(0, 2, 3), 0);
            C.due(x, "not in the LINE", x.look(2, 2, 3), 0);
            C.due(x, "a LANE all the same", x.look(1, 2, 2), 1);
            C.due(x, x.count(1), stage == Stage.DONE ? 4 : stage == Stage.PARTLY_ENTERED ? 3 : 0);
        }
        Run x = Stage.PARTLY_ENTERED.run();
        x.hear(1, true);
        C.due(x, "they stay TAKEN when the other CASE is STRUCK OUT", x.count(1), 3);
        C.due(x, x.look(1, 2, 3), 1);
        Run last = Stage.MADE.run();
        last.object(0);
        last.days(5);
        last.enter();
        C.due(last, "whichever CASE is the first to be ENTERED", last.look(1, 2, 3), 1);
        C.due(last, last.look(3, 1, 3), 1);
        C.due(last, last.look(1, 0, 3), 0);
    }

    private static void doneWhenEachIsOver() {
        C.says("An ORDER is DONE, when each CASE is ENTERED or STRUCK OUT");
        Run x = ordered(0, 0);
        C.due(x, x.count(6), 1);
        Run both = x.again();
        both.enter();
        C.due(both, both.count(6), 0);
        x.object(0);
        x.object(1);
        x.hear(0, true);
        C.due(x, x.count(6), 1);
        Run struck = x.again();
        struck.hear(1, true);
        C.due(struck, struck.count(6), 0);
        x.hear(1, false);
        C.due(x, "kept, and not ENTERED", x.count(6), 1);
        C.refused(x, STATE, x::undo);
        x.enter();
        C.due(x, x.count(6), 0);
        Run first = ordered(0, 0);
        first.object(0);
        first.enter();
        C.due(first, first.count(6), 1);
        first.hear(0, true);
        C.due(first, "ENTERED and STRUCK OUT", first.count(6), 0);
    }

    // ---- promise 17

    private static void undoNone() {
        C.says("STATE (-103): there is none, or it is not DONE.");
        Run x = Stage.NONE_MADE.run();
        C.refused(x, STATE, x::undo);
        Run y = Stage.UNDONE.run();
        C.refused(y, STATE, y::undo);
        C.due(y, y.count(7), 1);
        Run z = Stage.STRUCK_OUT.run();
        C.due(z, z.undo(), 0);
        C.due(z, z.count(3), 0);
        C.due(z, z.count(7), 1);
        C.refused(z, STATE, z::undo);
    }

    private static void undoNotDone() {
        C.says("The latest ORDER is undone, if it is DONE");
        for (Stage stage : Stage.values()) {
            if (stage.isOpen()) {
                Run x = stage.run();
                C.refused(x, STATE, x::undo);
            }
        }
        Run x = Stage.DONE.run();
        x.pay(0, 0, 7);
        x.choose(0, 0);
        x.make();
        C.refused(x, STATE, x::undo);
        x.days(5);
        x.enter();
        C.due(x, "the latest alone", x.undo(), 0);
        C.due(x, x.count(3), 1);
        C.due(x, x.count(1), 4);
        C.due(x, x.told(0, 0, 8), 7);
        C.due(x, "(The one ahead of it is the latest then.)", x.undo(), 7);
        C.due(x, x.count(1), 0);
        C.due(x, x.count(7), 2);
    }

    private static void undoGivesBack() {
        C.says("CELLS of its CASES are not TAKEN any more (LANES of its LINE, too), "
                + "what was paid for them is given back");
        Run x = Stage.DONE.run();
        C.due("undo(), nothing was paid", x.again().undo(), 0);
        x.days(100);
        C.due(x, x.pay(0, 0, 20), 20);
        C.due(x, x.pay(0, 1, 8), 8);
        C.told(x, 0, 0, 8, 6, 153, 0, 14);
        C.told(x, 0, 1, 8, 0, 92, 0, 8);
        C.due(x, x.undo(), 28);
        for (int place = 0; place < 12; place++) {
            C.due(x, x.look(place % 4, place / 4, 3), 0);
        }
        C.due(x, "the LINE stays empty", x.count(2), 0);
        C.due(x, x.count(3), 0);
        C.due(x, x.count(5), 107);
        for (int what = 0; what < 14; what++) {
            C.due(x, x.told(0, 0, what), UNKNOWN);
        }
        C.due(x, x.gets(0, 0, 0), UNKNOWN);
        C.due(x, x.pay(0, 0, 1), UNKNOWN);
        Run all = Stage.DONE.run();
        C.due(all, all.pay(0, 0, 1000000000), 159);
        C.due(all, all.pay(0, 1, 1000000000), 92);
        C.due(all, "all that was taken, no more", all.undo(), 251);
        Run half = Stage.PARTLY_ENTERED.run();
        half.pay(0, 0, 30);
        half.hear(1, true);
        C.due(half, "with a CASE STRUCK OUT", half.undo(), 30);
    }

    private static void undoOwesDebtsAgain() {
        C.says("what DEBTS got is owed again");
        Run x = longField(5);
        x.right(0, 1, 25);
        x.right(0, 1, 10);
        x.takeNow(0, 0);
        x.takeNow(1, 0);
        x.takeNow(2, 0);
        long[] first = {10, 10, 5};
        long[] second = {0, 0, 5};
        for (int o = 0; o < 3; o++) {
            C.due(x, x.gets(o, 0, 0), first[o]);
            C.due(x, x.gets(o, 0, 1), second[o]);
        }
        x.undo();
        x.takeNow(3, 0, 4, 0);
        C.due(x, "5 of the first DEBT are left, 10 of the second", x.gets(2, 0, 0), 5);
        C.due(x, x.gets(2, 0, 1), 10);
        C.due(x, x.told(2, 0, 13), 5);
        x.undo();
        x.undo();
        x.undo();
        x.takeNow(0, 0, 1, 0, 2, 0, 3, 0);
        C.due(x, x.gets(0, 0, 0), 25);
        C.due(x, x.gets(0, 0, 1), 10);
        C.due(x, x.told(0, 0, 13), 5);
    }

    private static void undoSixty() {
        C.says("(The one ahead of it is the latest then.)");
        Run x = longField(60);
        x.lane(15, 15);
        for (int o = 0; o < 60; o++) {
            x.line(o % 16, o / 16, true);
            if (o == 0) {
                x.line(15, 15, true);
            }
            x.make();
            x.enter();
            x.pay(o, 0, o % 10 + 1);
        }
        C.due(x, x.count(1), 61);
        for (int o = 59; o >= 0; o--) {
            C.due(x, x.undo(), o % 10 + 1);
            C.due("CELLS TAKEN behind " + (60 - o), x.again().count(1), o == 0 ? 0 : o + 1);
        }
        C.refused(x, STATE, x::undo);
        C.due(x, x.count(3), 0);
        C.due(x, x.count(4), 0);
        C.due(x, x.count(7), 60);
        x.line(0, 0, true);
        C.due(x, "the number 0 is free again", x.make(), 1);
        C.due(x, x.told(0, 0, 1), NOTICED);
    }

    private static void undoLeavesNoCases() {
        C.says("UNKNOWN (a number names nothing)");
        Run x = Stage.UNDONE.run();
        x.choose(1, 0);
        C.due(x, x.make(), 1);
        C.refused(x, UNKNOWN, () -> x.object(1));
        C.refused(x, UNKNOWN, () -> x.hear(1, true));
        C.refused(x, UNKNOWN, () -> x.told(0, 1, 0));
        C.refused(x, UNKNOWN, () -> x.gets(0, 1, 0));
        C.refused(x, UNKNOWN, () -> x.pay(0, 1, 1));
        x.days(5);
        C.due(x, "the CASE of the ORDER undone does not come back", x.enter(), 1);
        C.due(x, x.count(6), 0);
        C.due(x, x.look(1, 1, 3), 0);
    }

    private static void undoLeavesNothingToTheNext() {
        C.says("(2 to 11 and 13: 0, if not ENTERED)");
        Run x = Stage.DONE.run();
        x.days(100);
        x.pay(0, 0, 20);
        x.pay(0, 1, 3);
        x.undo();
        x.choose(1, 0, 1, 1);
        x.rate(4, 9);
        x.make();
        x.days(3);
        for (int k = 0; k < 2; k++) {
            C.told(x, 0, k, 0, k, NOTICED, 0, 0, 0, 0, 0, 0, 0, 0, 0, 0, 1, 0);
            C.due(x, x.gets(0, k, 0), 0);
        }
        C.due(x, x.gets(0, 0, 1), 0);
        Run y = Stage.NONE_MADE.run();
        y.days(100 + 5);
        y.line(1, 2, false);
        y.line(3, 1, false);
        y.rate(4, 9);
        y.make();
        y.days(3);
        for (int k = 0; k < 2; k++) {
            for (int what = 0; what < 14; what++) {
                long want = y.told(0, k, what);
                C.due(x, x.told(0, k, what), want);
            }
        }
        x.days(6);
        y.days(6);
        C.due("enter()", x.enter(), y.enter());
        for (int k = 0; k < 2; k++) {
            for (int what = 0; what < 14; what++) {
                long want = y.told(0, k, what);
                C.due(x, x.told(0, k, what), want);
            }
        }
        C.due(x, "this LINE had no LANE", x.look(1, 2, 3), 0);
    }
}
