/** Ways in which an ORDER may stand, from none MADE to one undone, on one small map. */
enum Stage {
    NONE_MADE, MADE, OBJECTED, KEPT, PARTLY_ENTERED, DONE, STRUCK_OUT, UNDONE;

    /**
     * Row 0 is FIELD 0 (its HOUSE at (0, 0)), row 1 FIELD 1 but for (3, 1) of no FIELD, row 2 two LANES and two CELLS
     * of no FIELD. The LINE goes down column 1, and over (3, 1). It is day 2, with 5 days of notice.
     */
    private static Run farm() {
        Run x = new Run();
        x.map(4, 3);
        x.field();
        x.field();
        x.row(0, 0, 3, 0, 0);
        x.row(1, 0, 2, 1, 1);
        x.lane(0, 2);
        x.lane(1, 2);
        x.house(0, 0, 0);
        x.right(0, 1, 150);
        x.right(0, 2, 100);
        x.right(1, 2, 250);
        x.price(0, 0, 100);
        x.price(1, 3, 40);
        x.rate(0, 250);
        x.rate(1, 7);
        x.rate(2, 50);
        x.rate(3, 900);
        x.rate(4, 5);
        x.days(2);
        x.choose(1, 0, 1, 1, 1, 2, 3, 1);
        return x;
    }

    /** A new run that has come to this stage; CASE 0 is FIELD 0's, CASE 1 FIELD 1's. */
    Run run() {
        Run x = farm();
        if (this == NONE_MADE) {
            return x;
        }
        x.make();
        if (this == OBJECTED || this == KEPT || this == PARTLY_ENTERED) {
            x.object(1);
        }
        if (this == KEPT) {
            x.hear(1, false);
        }
        if (this == PARTLY_ENTERED || this == DONE || this == UNDONE) {
            x.days(5);
            x.enter();
        }
        if (this == STRUCK_OUT) {
            x.object(0);
            x.object(1);
            x.hear(0, true);
            x.hear(1, true);
        }
        if (this == UNDONE) {
            x.undo();
        }
        return x;
    }

    /** Whether an ORDER is MADE and not DONE. */
    boolean isOpen() {
        return this == MADE || this == OBJECTED || this == KEPT || this == PARTLY_ENTERED;
    }

    /** Whether there is an ORDER that is not undone. */
    boolean hasOrder() {
        return this != NONE_MADE && this != UNDONE;
    }
}
