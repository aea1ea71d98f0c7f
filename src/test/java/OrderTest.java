/** Promises 12 to 17: line, make, object, hear, enter, undo. What an entry is worth stands in WorthTest. */
public final class OrderTest {
    private static final Checks C = new Checks("OrderTest");
    private static final int UNKNOWN = LandTaken.UNKNOWN, OUTSIDE = LandTaken.OUTSIDE, STATE = LandTaken.STATE,
            FULL = LandTaken.FULL;

    public static void main(String[] args) {
        line();
        make();
        makeFull();
        object();
        objectAndEnterOnTheSameDay();
        hear();
        enter();
        enterInParts();
        struckOutWhole();
        undo();
        undoOneBehindTheOther();
        C.end();
    }

    /** Three FIELDS, a row each of four CELLS, of SOILS 0, 1, 2; a row of LANE, no FIELD, no FIELD, LANE below. */
    private static Run threeRows() {
        Run x = new Run();
        x.map(4, 4);
        for (int f = 0; f < 3; f++) {
            x.field();
            x.row(f, 0, 3, f, f);
            x.price(f, 0, 100 * (f + 1));
        }
        x.lane(0, 3);
        x.lane(3, 3);
        x.rate(4, 10);
        return x;
    }

    private static void line() {
        Run x = threeRows();
        C.due("line(1, 2, false)", x.line(1, 2, false), 0);
        C.due("line(1, 2, true)", x.line(1, 2, true), 0);
        C.due("line(1, 2, true) again", x.line(1, 2, true), 1);
        C.due("look(1, 2, 4)", x.look(1, 2, 4), 1);
        C.due("look(2, 1, 4)", x.look(2, 1, 4), 0);
        C.due("line(1, 2, false)", x.line(1, 2, false), 1);
        C.due("look(1, 2, 4)", x.look(1, 2, 4), 0);
        C.due("line of a LANE", x.line(0, 3, true), 0);
        C.due("line of no FIELD", x.line(1, 3, true), 0);
        C.due("count(2)", x.count(2), 2);
        C.refused(x, "line(4, 0, true)", UNKNOWN, () -> x.line(4, 0, true));
        C.refused(x, "line(0, 4, true)", UNKNOWN, () -> x.line(0, 4, true));
        C.refused(x, "line(-1, 0, false)", UNKNOWN, () -> x.line(-1, 0, false));
        x.line(0, 0, true);
        x.make();
        C.refused(x, "line while an ORDER is MADE", STATE, () -> x.line(1, 1, true));
        C.refused(x, "line(.., false) while an ORDER is MADE", STATE, () -> x.line(0, 0, false));
        C.refused(x, "line(4, 0, true): UNKNOWN first", UNKNOWN, () -> x.line(4, 0, true));
        x.days(10);
        x.enter();
        C.due("the LINE is empty", x.count(2), 0);
        C.refused(x, "line of a TAKEN CELL", STATE, () -> x.line(0, 0, true));
        C.refused(x, "line(.., false) of a TAKEN CELL", STATE, () -> x.line(0, 0, false));
        C.refused(x, "line of a TAKEN LANE", STATE, () -> x.line(0, 3, true));
        C.refused(x, "line of a TAKEN CELL of no FIELD", STATE, () -> x.line(1, 3, true));
        C.due("line of a CELL that is not TAKEN", x.line(1, 0, true), 0);
        x.undo();
        C.due("line of a CELL not TAKEN any more", x.line(0, 0, true), 0);
        C.due("a LINE chosen ahead of undo() stays", x.look(1, 0, 4), 1);
    }

    private static void make() {
        Run x = threeRows();
        C.refused(x, "make() of an empty LINE", OUTSIDE, x::make);
        x.line(0, 3, true);
        x.line(1, 3, true);
        C.refused(x, "make() of a LINE without FIELDS", OUTSIDE, x::make);
        x.line(0, 2, true);
        x.line(1, 2, true);
        x.line(3, 0, true);
        x.days(5);
        C.due("make()", x.make(), 2);
        C.due("told(0, 0, 0): in order of their numbers", x.told(0, 0, 0), 0);
        C.due("told(0, 1, 0)", x.told(0, 1, 0), 2);
        C.due("told(0, 0, 12)", x.told(0, 0, 12), 1);
        C.due("told(0, 1, 12)", x.told(0, 1, 12), 2);
        C.due("told(0, 0, 1)", x.told(0, 0, 1), 0);
        C.due("count(1): nothing is TAKEN yet", x.count(1), 0);
        C.due("count(2): the LINE stays", x.count(2), 5);
        C.due("count(3)", x.count(3), 1);
        C.due("count(4)", x.count(4), 2);
        C.due("count(6)", x.count(6), 1);
        C.refused(x, "make() while one is not DONE", STATE, x::make);
        x.days(10);
        x.enter();
        C.refused(x, "make() of the empty LINE behind it", OUTSIDE, x::make);
        x.line(1, 0, true);
        C.due("make() behind it", x.make(), 1);
        C.due("told(1, 0, 0)", x.told(1, 0, 0), 0);
        C.due("told(1, 0, 12)", x.told(1, 0, 12), 1);
    }

    private static void makeFull() {
        Run x = new Run();
        x.field();
        x.cell(0, 0, 0, 0);
        for (int o = 0; o < 60; o++) {
            x.line(0, 0, true);
            C.due("make() " + o, x.make(), 1);
            x.object(0);
            x.hear(0, true);
        }
        C.due("count(3)", x.count(3), 60);
        C.refused(x, "make() 60 of an empty LINE: OUTSIDE first", OUTSIDE, x::make);
        x.line(0, 0, true);
        C.refused(x, "make() 60", FULL, x::make);
        C.due("told(59, 0, 1)", x.told(59, 0, 1), 3);
        C.due("told(60, 0, 1)", x.told(60, 0, 1), UNKNOWN);
        C.due("undo()", x.undo(), 0);
        C.due("make() behind undo()", x.make(), 1);
        C.due("count(3)", x.count(3), 60);
        C.due("count(7)", x.count(7), 1);
    }

    private static void object() {
        Run x = threeRows();
        C.refused(x, "object(0) without an ORDER", STATE, () -> x.object(0));
        C.refused(x, "object(-1) without an ORDER: STATE first", STATE, () -> x.object(-1));
        x.row(1, 0, 3, 1, 1);
        x.line(0, 0, true);
        x.line(0, 1, true);
        x.line(0, 2, true);
        x.days(3);
        x.make();
        x.rate(4, 1000);
        C.refused(x, "object(3)", UNKNOWN, () -> x.object(3));
        C.refused(x, "object(-1)", UNKNOWN, () -> x.object(-1));
        C.due("object(1)", x.object(1), 1);
        C.due("told(0, 1, 1)", x.told(0, 1, 1), 1);
        C.due("told(0, 0, 1)", x.told(0, 0, 1), 0);
        C.refused(x, "object(1) again", STATE, () -> x.object(1));
        x.hear(1, false);
        C.refused(x, "object(1), kept", STATE, () -> x.object(1));
        x.days(10);
        C.due("object(2) on the last day, by the days as they were told then", x.object(2), 1);
        x.hear(2, true);
        C.refused(x, "object(2), STRUCK OUT", STATE, () -> x.object(2));
        x.days(1);
        C.refused(x, "object(0) a day late", STATE, () -> x.object(0));
        C.refused(x, "object(3) a day late: UNKNOWN first", UNKNOWN, () -> x.object(3));
        x.enter();
        C.refused(x, "object(9), DONE: STATE first", STATE, () -> x.object(9));
    }

    private static void objectAndEnterOnTheSameDay() {
        Run x = threeRows();
        x.line(0, 0, true);
        x.line(0, 1, true);
        x.make();
        x.object(1);
        x.days(9);
        C.refused(x, "enter() a day early", STATE, x::enter);
        x.days(1);
        C.due("enter() on the last day of notice", x.enter(), 1);
        C.refused(x, "object(0), ENTERED", STATE, () -> x.object(0));
    }

    private static void hear() {
        Run x = threeRows();
        C.refused(x, "hear(0, true) without an ORDER", STATE, () -> x.hear(0, true));
        C.refused(x, "hear(-1, true) without an ORDER: STATE first", STATE, () -> x.hear(-1, true));
        x.line(0, 0, true);
        x.line(0, 1, true);
        x.make();
        C.refused(x, "hear(2, true)", UNKNOWN, () -> x.hear(2, true));
        C.refused(x, "hear(-1, true)", UNKNOWN, () -> x.hear(-1, true));
        C.refused(x, "hear(0, true), not OBJECTED to", STATE, () -> x.hear(0, true));
        x.object(0);
        x.object(1);
        x.days(300);
        C.due("hear(0, false), however late", x.hear(0, false), 1);
        C.due("told(0, 0, 1)", x.told(0, 0, 1), 2);
        C.refused(x, "hear(0, true), HEARD already", STATE, () -> x.hear(0, true));
        C.due("count(6)", x.count(6), 1);
        C.due("enter()", x.enter(), 1);
        C.refused(x, "hear(0, true), ENTERED", STATE, () -> x.hear(0, true));
        C.due("hear(1, true)", x.hear(1, true), 1);
        C.due("told(0, 1, 1)", x.told(0, 1, 1), 3);
        C.due("count(6): DONE", x.count(6), 0);
        C.due("count(2): the LINE is empty", x.count(2), 0);
        C.refused(x, "hear(1, true), DONE", STATE, () -> x.hear(1, true));
        C.due("look(0, 0, 3)", x.look(0, 0, 3), 1);
        C.due("look(0, 1, 3): STRUCK OUT", x.look(0, 1, 3), 0);
    }

    private static void enter() {
        Run x = threeRows();
        C.refused(x, "enter() without an ORDER", STATE, x::enter);
        x.line(0, 0, true);
        x.line(1, 0, true);
        x.line(0, 1, true);
        x.line(0, 3, true);
        x.line(1, 3, true);
        x.days(2);
        x.make();
        x.rate(4, 0);
        x.days(9);
        C.refused(x, "enter() too early, by the days as they were told then", STATE, x::enter);
        x.days(1);
        C.due("enter()", x.enter(), 2);
        C.due("count(1)", x.count(1), 5);
        C.due("look(0, 3, 3): the LANE", x.look(0, 3, 3), 1);
        C.due("look(1, 3, 3): of no FIELD", x.look(1, 3, 3), 1);
        C.due("look(2, 3, 3): not in the LINE", x.look(2, 3, 3), 0);
        C.due("look(0, 3, 2): a LANE still", x.look(0, 3, 2), 1);
        C.due("told(0, 0, 1)", x.told(0, 0, 1), 4);
        C.due("told(0, 0, 2)", x.told(0, 0, 2), 12);
        C.due("told(0, 0, 12)", x.told(0, 0, 12), 2);
        C.due("told(0, 1, 1)", x.told(0, 1, 1), 4);
        C.due("count(6)", x.count(6), 0);
        C.due("count(2)", x.count(2), 0);
        C.refused(x, "enter(), DONE", STATE, x::enter);
    }

    private static void enterInParts() {
        Run x = threeRows();
        x.line(0, 0, true);
        x.line(0, 1, true);
        x.line(0, 2, true);
        x.line(0, 3, true);
        x.make();
        x.object(0);
        x.object(1);
        x.object(2);
        x.days(10);
        C.refused(x, "enter(), all OBJECTED to", STATE, x::enter);
        C.due("look(0, 3, 3): no ENTRY was", x.look(0, 3, 3), 0);
        x.hear(1, false);
        C.due("enter(), the kept one", x.enter(), 1);
        C.due("look(0, 1, 3)", x.look(0, 1, 3), 1);
        C.due("look(0, 0, 3)", x.look(0, 0, 3), 0);
        C.due("look(0, 3, 3): TAKEN at the first ENTRY", x.look(0, 3, 3), 1);
        C.due("count(2): the LINE stays", x.count(2), 4);
        C.due("count(6)", x.count(6), 1);
        C.due("told(0, 0, 2): not ENTERED", x.told(0, 0, 2), 0);
        C.refused(x, "enter() again", STATE, x::enter);
        C.refused(x, "undo(), not DONE", STATE, x::undo);
        x.days(7);
        x.hear(0, false);
        x.hear(2, true);
        C.due("enter() later", x.enter(), 1);
        C.due("told(0, 0, 2)", x.told(0, 0, 2), 17);
        C.due("told(0, 1, 2)", x.told(0, 1, 2), 10);
        C.due("told(0, 2, 2)", x.told(0, 2, 2), 0);
        C.due("told(0, 2, 12): STRUCK OUT", x.told(0, 2, 12), 1);
        C.due("count(1)", x.count(1), 3);
        C.due("count(6)", x.count(6), 0);
    }

    private static void struckOutWhole() {
        Run x = threeRows();
        x.line(0, 0, true);
        x.line(0, 3, true);
        x.line(1, 3, true);
        x.make();
        x.object(0);
        x.hear(0, true);
        C.due("count(6): DONE", x.count(6), 0);
        C.due("count(1): without an ENTRY nothing is TAKEN", x.count(1), 0);
        C.due("count(2)", x.count(2), 0);
        C.due("count(3): an ORDER all the same", x.count(3), 1);
        C.due("undo()", x.undo(), 0);
        C.due("count(3)", x.count(3), 0);
        C.due("count(4)", x.count(4), 0);
    }

    private static void undo() {
        Run x = threeRows();
        C.refused(x, "undo() without an ORDER", STATE, x::undo);
        x.rate(3, 10000);
        x.right(0, 1, 150);
        x.line(0, 0, true);
        x.line(0, 1, true);
        x.line(0, 3, true);
        x.line(1, 3, true);
        x.make();
        C.refused(x, "undo(), not DONE", STATE, x::undo);
        x.days(10);
        x.enter();
        x.days(10);
        C.due("pay(0, 0, 30)", x.pay(0, 0, 30), 30);
        C.due("INTEREST paid", x.told(0, 0, 11), 10);
        C.due("pay(0, 1, 7)", x.pay(0, 1, 7), 7);
        C.due("undo(): DUE and INTEREST", x.undo(), 37);
        C.due("count(1): all is given back", x.count(1), 0);
        C.due("look(0, 3, 3): the LANE too", x.look(0, 3, 3), 0);
        C.due("look(1, 3, 3): the CELL of no FIELD too", x.look(1, 3, 3), 0);
        C.due("count(3)", x.count(3), 0);
        C.due("count(7)", x.count(7), 1);
        C.due("count(5): THE DAY stays", x.count(5), 20);
        C.due("told(0, 0, 0)", x.told(0, 0, 0), UNKNOWN);
        C.due("pay(0, 0, 1)", x.pay(0, 0, 1), UNKNOWN);
        C.refused(x, "undo() again", STATE, x::undo);
        C.due("the order behind it takes its number", x.takeNow(1, 0), 1);
        C.due("told(0, 0, 8): nothing is paid", x.told(0, 0, 8), 0);
        C.due("told(0, 0, 11)", x.told(0, 0, 11), 0);
        C.due("told(0, 1, 0): one CASE", x.told(0, 1, 0), UNKNOWN);
        C.due("gets(0, 0, 0): the DEBT is owed again", x.gets(0, 0, 0), 100);
    }

    private static void undoOneBehindTheOther() {
        Run x = threeRows();
        x.right(0, 1, 250);
        x.takeNow(0, 0, 0, 1, 0, 3);
        x.takeNow(1, 0);
        x.takeNow(2, 0, 3, 3);
        C.due("gets(0, 0, 0)", x.gets(0, 0, 0), 100);
        C.due("gets(1, 0, 0)", x.gets(1, 0, 0), 100);
        C.due("gets(2, 0, 0)", x.gets(2, 0, 0), 50);
        C.due("told(2, 0, 13)", x.told(2, 0, 13), 50);
        x.pay(0, 0, 11);
        x.pay(1, 0, 22);
        x.pay(2, 0, 33);
        C.due("undo() of the latest", x.undo(), 33);
        C.due("look(2, 0, 3)", x.look(2, 0, 3), 0);
        C.due("look(3, 3, 3)", x.look(3, 3, 3), 0);
        C.due("look(1, 0, 3): the one ahead of it stands", x.look(1, 0, 3), 1);
        C.due("look(0, 3, 3)", x.look(0, 3, 3), 1);
        C.due("count(4)", x.count(4), 1);
        C.due("told(1, 0, 8)", x.told(1, 0, 8), 22);
        x.takeNow(3, 0);
        C.due("the DEBT: what is left of it", x.gets(2, 0, 0), 50);
        C.due("undo()", x.undo(), 0);
        C.due("undo()", x.undo(), 22);
        C.due("count(4)", x.count(4), 2);
        C.due("undo()", x.undo(), 11);
        C.refused(x, "undo() of none", STATE, x::undo);
        C.due("count(7)", x.count(7), 4);
        C.due("count(1)", x.count(1), 0);
    }
}
