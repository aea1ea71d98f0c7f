/**
 * Land taken for a road: what is taken of each field, what is due for it, and who gets it.
 * The promises that this class keeps stand in shared/DOC.md.
 */
public final class LandTaken {
    public static final int NONE = -1, UNKNOWN = -101, OUTSIDE = -102, STATE = -103, FULL = -104;

    private static final int SIDE = 16, CELLS = SIDE * SIDE;
    private static final int MOST_FIELDS = 12, MOST_RIGHTS = 4, MOST_ORDERS = 60, MOST_PRICES = 20;
    private static final int SOILS = 4, RATES = 5, LAST_DAY = 10000, MOST_DAYS = 1000;
    private static final int MOST_PRICE = 100000, MOST_DEBT = 1000000, MOST_SHARE = 1000;
    private static final long MOST_MONEY = 1000000000L;
    private static final long THOUSAND = 1000L, MILLION = 1000000L;

    private static final int DEBT = 1, TENANT = 2;
    private static final int NOTICED = 0, OBJECTED = 1, KEPT = 2, STRUCK_OUT = 3, ENTERED = 4;
    private static final int RATE_LOSS = 0, RATE_FENCE = 1, RATE_BETTER = 2, RATE_INTEREST = 3, RATE_NOTICE = 4;
    private static final int NOTICE_AT_FIRST = 28;
    private static final int[] MOST_RATE = {1000, 100000, 1000, 10000, 1000};

    private static final int SIDES = 4;
    private static final int[] STEP_X = {0, 1, 0, -1};
    private static final int[] STEP_Y = {-1, 0, 1, 0};

    private static final int LOOKS = 5, PIECE_TELLS = 4, CASE_TELLS = 14, COUNTS = 8;

    private final Land land;
    private final Split split;
    private final Field[] fields;
    private int fieldCount;
    private final Prices[] prices;
    private final int[] pricesToday;
    private final int[] rates;
    private int today;
    /** Rows behind orderCount are null, or of orders undone, kept to be used again. */
    private final Order[] orders;
    private int orderCount;
    private int undoneCount;

    public LandTaken() {
        land = new Land();
        split = new Split();
        fields = new Field[MOST_FIELDS];
        for (int f = 0; f < MOST_FIELDS; f++) {
            fields[f] = new Field();
        }
        prices = new Prices[SOILS];
        for (int s = 0; s < SOILS; s++) {
            prices[s] = new Prices();
        }
        pricesToday = new int[SOILS];
        rates = new int[RATES];
        rates[RATE_NOTICE] = NOTICE_AT_FIRST;
        orders = new Order[MOST_ORDERS];
        land.renew(1, 1);
    }

    // ---- the map

    public int map(int w, int h) {
        if (w < 1 || w > SIDE || h < 1 || h > SIDE) {
            return OUTSIDE;
        }
        if (wasOrderMade()) {
            return STATE;
        }
        land.renew(w, h);
        fieldCount = 0;
        return w * h;
    }

    public int field() {
        if (wasOrderMade()) {
            return STATE;
        }
        if (fieldCount >= MOST_FIELDS) {
            return FULL;
        }
        fields[fieldCount].clear();
        fieldCount++;
        return fieldCount - 1;
    }

    public int cell(int x, int y, int f, int soil) {
        int place = land.at(x, y);
        if (place == NONE || (f != NONE && !isField(f))) {
            return UNKNOWN;
        }
        if (!isSoil(soil)) {
            return OUTSIDE;
        }
        if (wasOrderMade()) {
            return STATE;
        }
        pullDownHouse(place);
        land.owner[place] = f;
        land.soil[place] = soil;
        land.isLane[place] = false;
        return 1;
    }

    public int lane(int x, int y) {
        int place = land.at(x, y);
        if (place == NONE) {
            return UNKNOWN;
        }
        if (wasOrderMade()) {
            return STATE;
        }
        pullDownHouse(place);
        land.owner[place] = NONE;
        land.isLane[place] = true;
        return 1;
    }

    public int house(int f, int x, int y) {
        int place = land.at(x, y);
        if (!isField(f) || place == NONE) {
            return UNKNOWN;
        }
        if (land.owner[place] != f) {
            return OUTSIDE;
        }
        if (wasOrderMade()) {
            return STATE;
        }
        fields[f].housePlace = place;
        return 1;
    }

    public int right(int f, int kind, int amount) {
        if (!isField(f)) {
            return UNKNOWN;
        }
        if (!isAmount(kind, amount)) {
            return OUTSIDE;
        }
        if (wasOrderMade()) {
            return STATE;
        }
        return fields[f].addRight(kind, amount);
    }

    private boolean wasOrderMade() {
        return orderCount > 0 || undoneCount > 0;
    }

    private boolean isField(int f) {
        return f >= 0 && f < fieldCount && f < MOST_FIELDS;
    }

    private static boolean isSoil(int soil) {
        return soil >= 0 && soil < SOILS;
    }

    private static boolean isAmount(int kind, int amount) {
        if (kind == DEBT) {
            return amount >= 0 && amount <= MOST_DEBT;
        }
        return kind == TENANT && amount >= 0 && amount <= MOST_SHARE;
    }

    private void pullDownHouse(int place) {
        for (int f = 0; f < fieldCount && f < MOST_FIELDS; f++) {
            if (fields[f].housePlace == place) {
                fields[f].housePlace = NONE;
            }
        }
    }

    // ---- prices, rates, days

    public int price(int soil, int day, int price) {
        if (!isSoil(soil)) {
            return UNKNOWN;
        }
        if (!isDay(day) || price < 0 || price > MOST_PRICE) {
            return OUTSIDE;
        }
        return prices[soil].put(day, price);
    }

    public int costs(int soil, int day) {
        if (!isSoil(soil)) {
            return UNKNOWN;
        }
        if (!isDay(day)) {
            return OUTSIDE;
        }
        return prices[soil].on(day);
    }

    public int rate(int k, int v) {
        if (k < 0 || k >= RATES) {
            return UNKNOWN;
        }
        if (v < 0 || v > MOST_RATE[k]) {
            return OUTSIDE;
        }
        int before = rates[k];
        rates[k] = v;
        return before;
    }

    public int days(int n) {
        if (n < 1 || n > MOST_DAYS || today + n > LAST_DAY) {
            return OUTSIDE;
        }
        today += n;
        return today;
    }

    private static boolean isDay(int day) {
        return day >= 0 && day <= LAST_DAY;
    }

    // ---- orders

    public int line(int x, int y, boolean is) {
        int place = land.at(x, y);
        if (place == NONE) {
            return UNKNOWN;
        }
        if (openOrder() != null || land.isTaken(place)) {
            return STATE;
        }
        int before = land.inLine[place] ? 1 : 0;
        land.inLine[place] = is;
        return before;
    }

    public int make() {
        if (openOrder() != null) {
            return STATE;
        }
        if (!touchesField()) {
            return OUTSIDE;
        }
        if (orderCount >= MOST_ORDERS) {
            return FULL;
        }
        Order order = orders[orderCount];
        if (order == null) {
            order = new Order();
            orders[orderCount] = order;
        }
        orderCount++;
        order.begin(today, rates[RATE_NOTICE]);
        for (int f = 0; f < fieldCount; f++) {
            int cells = land.cellsInLine(f);
            if (cells > 0) {
                order.addCase(f, cells);
            }
        }
        return order.caseCount;
    }

    public int object(int k) {
        Order order = openOrder();
        if (order == null) {
            return STATE;
        }
        Case one = order.caseAt(k);
        if (one == null) {
            return UNKNOWN;
        }
        if (one.state != NOTICED || today > order.noticeEnd()) {
            return STATE;
        }
        one.state = OBJECTED;
        return 1;
    }

    public int hear(int k, boolean strike) {
        Order order = openOrder();
        if (order == null) {
            return STATE;
        }
        Case one = order.caseAt(k);
        if (one == null) {
            return UNKNOWN;
        }
        if (one.state != OBJECTED) {
            return STATE;
        }
        one.state = strike ? STRUCK_OUT : KEPT;
        emptyLineIfDone(order);
        return 1;
    }

    public int enter() {
        Order order = openOrder();
        if (order == null || today < order.noticeEnd() || !order.hasReady()) {
            return STATE;
        }
        for (int s = 0; s < SOILS; s++) {
            pricesToday[s] = prices[s].on(today);
        }
        // What a case loses is told by the map behind the whole entry, so all is taken ahead of any worth.
        takeReadyCells(order);
        int entered = settleReadyCases(order);
        emptyLineIfDone(order);
        return entered;
    }

    public long undo() {
        Order order = latestOrder();
        if (order == null || !order.isDone()) {
            return STATE;
        }
        long back = 0;
        for (int k = 0; k < order.caseCount; k++) {
            Case one = order.caseAt(k);
            if (one != null) {
                back += one.paid + one.interestPaid;
                oweDebtsAgain(one);
            }
        }
        orderCount--;
        undoneCount++;
        land.giveBack(orderCount);
        return back;
    }

    private Order orderAt(int o) {
        return o >= 0 && o < orderCount && o < MOST_ORDERS ? orders[o] : null;
    }

    private Order latestOrder() {
        return orderAt(orderCount - 1);
    }

    /** The order that is made and not done, or null. */
    private Order openOrder() {
        Order order = latestOrder();
        return order == null || order.isDone() ? null : order;
    }

    private Case caseOf(int o, int k) {
        Order order = orderAt(o);
        return order == null ? null : order.caseAt(k);
    }

    /** Cells of the line are never taken already: line() refuses those, and the line is empty when an order is done. */
    private boolean touchesField() {
        for (int f = 0; f < fieldCount; f++) {
            if (land.cellsInLine(f) > 0) {
                return true;
            }
        }
        return false;
    }

    private void emptyLineIfDone(Order order) {
        if (order.isDone()) {
            land.emptyLine();
        }
    }

    private void takeReadyCells(Order order) {
        int number = orderCount - 1;
        // Due at the first entry alone; a later one finds these cells taken by this order, and changes nothing.
        land.takeLine(NONE, number);
        for (int k = 0; k < order.caseCount; k++) {
            Case one = order.caseAt(k);
            if (one != null && one.isReady()) {
                land.takeLine(one.fieldNumber, number);
            }
        }
    }

    private int settleReadyCases(Order order) {
        int entered = 0;
        for (int k = 0; k < order.caseCount; k++) {
            Case one = order.caseAt(k);
            if (one != null && one.isReady() && isField(one.fieldNumber)) {
                assess(one, fields[one.fieldNumber]);
                share(one, fields[one.fieldNumber]);
                one.enterOn(today, rates[RATE_INTEREST]);
                entered++;
            }
        }
        return entered;
    }

    private void assess(Case one, Field of) {
        int f = one.fieldNumber;
        split.find(land, f, of.housePlace);
        one.landWorth = land.worthInLine(f, pricesToday);
        one.loss = Math.max(0L, lossOfPieces() - lossBefore(f));
        one.fence = (long) rates[RATE_FENCE] * land.fenceSides(f);
        long whole = one.landWorth + one.loss + one.fence;
        one.better = Math.min(whole, split.worth(split.main, land, pricesToday) * rates[RATE_BETTER] / THOUSAND);
        one.due = whole - one.better;
    }

    private long lossOfPieces() {
        boolean mainHasWay = split.hasWay(split.main);
        long sum = 0;
        for (int i = 0; i < split.number; i++) {
            if (i != split.main) {
                long worth = split.worth(i, land, pricesToday);
                boolean isShutOff = mainHasWay && !split.hasWay(i);
                sum += isShutOff ? worth : worth * rates[RATE_LOSS] / THOUSAND;
            }
        }
        return sum;
    }

    private long lossBefore(int f) {
        long sum = 0;
        for (int o = 0; o < orderCount - 1; o++) {
            Order order = orderAt(o);
            if (order != null) {
                sum += order.lossOf(f);
            }
        }
        return sum;
    }

    private void share(Case one, Field of) {
        long rest = one.due;
        for (int r = 0; r < of.rightCount && r < MOST_RIGHTS; r++) {
            boolean isDebt = of.kind[r] == DEBT;
            long claim = isDebt ? of.debtLeft[r] : one.due * of.amount[r] / THOUSAND;
            long part = Math.min(rest, claim);
            if (isDebt) {
                of.debtLeft[r] -= part;
            }
            one.rightGets[r] = part;
            rest -= part;
        }
        one.ownerGets = rest;
    }

    private void oweDebtsAgain(Case one) {
        if (!isField(one.fieldNumber)) {
            return;
        }
        Field of = fields[one.fieldNumber];
        for (int r = 0; r < of.rightCount && r < MOST_RIGHTS; r++) {
            if (of.kind[r] == DEBT) {
                of.debtLeft[r] += one.rightGets[r];
            }
        }
    }

    // ---- money

    public long pay(int o, int k, long v) {
        Case one = caseOf(o, k);
        if (one == null) {
            return UNKNOWN;
        }
        if (v < 1 || v > MOST_MONEY) {
            return OUTSIDE;
        }
        if (one.state != ENTERED) {
            return STATE;
        }
        return one.receive(v, today);
    }

    public long told(int o, int k, int what) {
        Case one = caseOf(o, k);
        if (one == null) {
            return UNKNOWN;
        }
        if (what < 0 || what >= CASE_TELLS) {
            return OUTSIDE;
        }
        return one.tell(what, today);
    }

    public long gets(int o, int k, int r) {
        Case one = caseOf(o, k);
        if (one == null || !isField(one.fieldNumber)) {
            return UNKNOWN;
        }
        if (r < 0 || r >= fields[one.fieldNumber].rightCount || r >= MOST_RIGHTS) {
            return UNKNOWN;
        }
        return one.rightGets[r];
    }

    // ---- what is told of the map

    public int look(int x, int y, int what) {
        int place = land.at(x, y);
        if (place == NONE) {
            return UNKNOWN;
        }
        switch (what) {
            case 0: return land.owner[place];
            case 1: return land.soil[place];
            case 2: return land.isLane[place] ? 1 : 0;
            case 3: return land.isTaken(place) ? 1 : 0;
            case 4: return land.inLine[place] ? 1 : 0;
            default: return OUTSIDE;
        }
    }

    public int pieces(int f) {
        if (!isField(f)) {
            return UNKNOWN;
        }
        split.find(land, f, fields[f].housePlace);
        return split.number;
    }

    public int piece(int f, int i, int what) {
        if (!isField(f)) {
            return UNKNOWN;
        }
        split.find(land, f, fields[f].housePlace);
        if (i < 0 || i >= split.number) {
            return UNKNOWN;
        }
        if (what < 0 || what >= PIECE_TELLS) {
            return OUTSIDE;
        }
        return split.tell(i, what);
    }

    public int count(int what) {
        switch (what) {
            case 0: return fieldCount;
            case 1: return land.cellsTaken();
            case 2: return land.cellsChosen();
            case 3: return orderCount;
            case 4: return casesOfLatest();
            case 5: return today;
            case 6: return openOrder() == null ? 0 : 1;
            case 7: return undoneCount;
            default: return OUTSIDE;
        }
    }

    public long digest() {
        long h = 127;
        h = mixed(h, land.wide);
        h = mixed(h, land.high);
        h = mixedCells(h);
        h = mixedFields(h);
        h = mixedOrders(h);
        for (int k = 0; k < RATES; k++) {
            h = mixed(h, rates[k]);
        }
        for (int what = 5; what < COUNTS; what++) {
            h = mixed(h, count(what));
        }
        return h;
    }

    private int casesOfLatest() {
        Order order = latestOrder();
        return order == null ? 0 : order.caseCount;
    }

    private static long mixed(long h, long number) {
        return 31 * h + number;
    }

    private long mixedCells(long start) {
        long h = start;
        for (int y = 0; y < land.high; y++) {
            for (int x = 0; x < land.wide; x++) {
                for (int what = 0; what < LOOKS; what++) {
                    h = mixed(h, look(x, y, what));
                }
            }
        }
        return h;
    }

    private long mixedFields(long start) {
        long h = start;
        for (int f = 0; f < fieldCount && f < MOST_FIELDS; f++) {
            Field of = fields[f];
            h = mixed(h, of.housePlace);
            for (int r = 0; r < of.rightCount && r < MOST_RIGHTS; r++) {
                h = mixed(h, of.kind[r]);
                h = mixed(h, of.amount[r]);
            }
        }
        return h;
    }

    private long mixedOrders(long start) {
        long h = start;
        for (int o = 0; o < orderCount; o++) {
            Order order = orderAt(o);
            if (order != null) {
                h = mixed(h, order.madeOn);
                for (int k = 0; k < order.caseCount; k++) {
                    for (int what = 0; what < CASE_TELLS; what++) {
                        h = mixed(h, told(o, k, what));
                    }
                }
            }
        }
        return h;
    }

    /**
     * The cells, each at 16 y + x whatever the map's width, so that a place is the number the document tells.
     * Places outside of the map stay of no field, not chosen and not taken: loops over all places pass them over.
     */
    private static final class Land {
        int wide;
        int high;
        final int[] owner = new int[CELLS];
        final int[] soil = new int[CELLS];
        final boolean[] isLane = new boolean[CELLS];
        final boolean[] inLine = new boolean[CELLS];
        /** The order that took the cell, so that undoing it finds its cells again; NONE, if not taken. */
        final int[] takenBy = new int[CELLS];

        void renew(int w, int h) {
            wide = w;
            high = h;
            for (int c = 0; c < CELLS; c++) {
                owner[c] = NONE;
                soil[c] = 0;
                isLane[c] = false;
                inLine[c] = false;
                takenBy[c] = NONE;
            }
        }

        /** The place of a cell of the map, or NONE. */
        int at(int x, int y) {
            boolean isInside = x >= 0 && x < wide && x < SIDE && y >= 0 && y < high && y < SIDE;
            return isInside ? y * SIDE + x : NONE;
        }

        int beside(int place, int side) {
            return at(place % SIDE + STEP_X[side], place / SIDE + STEP_Y[side]);
        }

        boolean isTaken(int place) {
            return takenBy[place] != NONE;
        }

        boolean isKept(int place, int f) {
            return owner[place] == f && takenBy[place] == NONE;
        }

        boolean isInLineOf(int place, int f) {
            return inLine[place] && owner[place] == f;
        }

        boolean isOpenLane(int place) {
            return isLane[place] && takenBy[place] == NONE;
        }

        int cellsInLine(int f) {
            int n = 0;
            for (int c = 0; c < CELLS; c++) {
                n += isInLineOf(c, f) ? 1 : 0;
            }
            return n;
        }

        int cellsChosen() {
            int n = 0;
            for (int c = 0; c < CELLS; c++) {
                n += inLine[c] ? 1 : 0;
            }
            return n;
        }

        int cellsTaken() {
            int n = 0;
            for (int c = 0; c < CELLS; c++) {
                n += isTaken(c) ? 1 : 0;
            }
            return n;
        }

        /** Takes the line's cells of a field, or those of no field (lanes are among them) for NONE. */
        void takeLine(int f, int order) {
            for (int c = 0; c < CELLS; c++) {
                if (isInLineOf(c, f)) {
                    takenBy[c] = order;
                }
            }
        }

        void giveBack(int order) {
            for (int c = 0; c < CELLS; c++) {
                if (takenBy[c] == order) {
                    takenBy[c] = NONE;
                }
            }
        }

        void emptyLine() {
            for (int c = 0; c < CELLS; c++) {
                inLine[c] = false;
            }
        }

        long worthInLine(int f, int[] priceOf) {
            long sum = 0;
            for (int c = 0; c < CELLS; c++) {
                if (isInLineOf(c, f)) {
                    sum += priceAt(c, priceOf);
                }
            }
            return sum;
        }

        int priceAt(int place, int[] priceOf) {
            int s = soil[place];
            return s >= 0 && s < priceOf.length ? priceOf[s] : 0;
        }

        int fenceSides(int f) {
            int n = 0;
            for (int c = 0; c < CELLS; c++) {
                if (isInLineOf(c, f)) {
                    n += keptSides(c, f);
                }
            }
            return n;
        }

        int keptSides(int place, int f) {
            int n = 0;
            for (int side = 0; side < SIDES; side++) {
                int next = beside(place, side);
                if (next != NONE && isKept(next, f)) {
                    n++;
                }
            }
            return n;
        }
    }

    /** The pieces of one field, found anew for each question in the same rows. */
    private static final class Split {
        int number;
        int main;
        final int[] pieceAt = new int[CELLS];
        final int[] size = new int[CELLS];
        final int[] first = new int[CELLS];
        final boolean[] way = new boolean[CELLS];
        final int[] queue = new int[CELLS];

        void find(Land land, int f, int housePlace) {
            number = 0;
            for (int c = 0; c < CELLS; c++) {
                pieceAt[c] = NONE;
            }
            for (int c = 0; c < CELLS; c++) {
                if (number < CELLS && pieceAt[c] == NONE && land.isKept(c, f)) {
                    spread(land, f, c);
                }
            }
            main = chosenMain(housePlace);
        }

        void spread(Land land, int f, int start) {
            int piece = number;
            number++;
            first[piece] = start;
            way[piece] = false;
            pieceAt[start] = piece;
            queue[0] = start;
            int end = 1;
            for (int at = 0; at < end && at < CELLS; at++) {
                for (int side = 0; side < SIDES; side++) {
                    int next = land.beside(queue[at], side);
                    if (next != NONE && land.isOpenLane(next)) {
                        way[piece] = true;
                    } else if (next != NONE && pieceAt[next] == NONE && land.isKept(next, f) && end < CELLS) {
                        pieceAt[next] = piece;
                        queue[end] = next;
                        end++;
                    }
                }
            }
            size[piece] = end;
        }

        /** A house that is taken, or none, is in no piece: then the largest one is the main one. */
        int chosenMain(int housePlace) {
            if (housePlace >= 0 && housePlace < CELLS && pieceAt[housePlace] != NONE) {
                return pieceAt[housePlace];
            }
            int best = NONE;
            for (int i = 0; i < number; i++) {
                if (best == NONE || size[i] > size[best]) {
                    best = i;
                }
            }
            return best;
        }

        boolean hasWay(int i) {
            return i >= 0 && i < number && way[i];
        }

        /** The prices of a piece; 0 for NONE, when nothing is left of the field. */
        long worth(int i, Land land, int[] priceOf) {
            if (i == NONE) {
                return 0;
            }
            long sum = 0;
            for (int c = 0; c < CELLS; c++) {
                if (pieceAt[c] == i) {
                    sum += land.priceAt(c, priceOf);
                }
            }
            return sum;
        }

        int tell(int i, int what) {
            switch (what) {
                case 0: return size[i];
                case 1: return first[i];
                case 2: return i == main ? 1 : 0;
                default: return way[i] ? 1 : 0;
            }
        }
    }

    /** A field's house and rights; its cells stand in Land. */
    private static final class Field {
        int housePlace;
        int rightCount;
        final int[] kind = new int[MOST_RIGHTS];
        final int[] amount = new int[MOST_RIGHTS];
        final long[] debtLeft = new long[MOST_RIGHTS];

        void clear() {
            housePlace = NONE;
            rightCount = 0;
        }

        int addRight(int itsKind, int itsAmount) {
            if (rightCount >= MOST_RIGHTS) {
                return FULL;
            }
            kind[rightCount] = itsKind;
            amount[rightCount] = itsAmount;
            debtLeft[rightCount] = itsAmount;
            rightCount++;
            return rightCount;
        }
    }

    /** The prices of one soil, in the order in which their days were first told. */
    private static final class Prices {
        int dayCount;
        final int[] from = new int[MOST_PRICES];
        final int[] value = new int[MOST_PRICES];

        int put(int day, int price) {
            for (int i = 0; i < dayCount && i < MOST_PRICES; i++) {
                if (from[i] == day) {
                    value[i] = price;
                    return dayCount;
                }
            }
            if (dayCount >= MOST_PRICES) {
                return FULL;
            }
            from[dayCount] = day;
            value[dayCount] = price;
            dayCount++;
            return dayCount;
        }

        int on(int day) {
            int latest = NONE;
            int price = 0;
            for (int i = 0; i < dayCount && i < MOST_PRICES; i++) {
                if (from[i] <= day && from[i] > latest) {
                    latest = from[i];
                    price = value[i];
                }
            }
            return price;
        }
    }

    private static final class Order {
        int madeOn;
        int noticeDays;
        int caseCount;
        /** Rows behind caseCount are null, or of an order undone, kept to be used again. */
        final Case[] cases = new Case[MOST_FIELDS];

        void begin(int day, int notice) {
            madeOn = day;
            noticeDays = notice;
            caseCount = 0;
        }

        void addCase(int f, int cells) {
            if (caseCount >= MOST_FIELDS) {
                return;
            }
            Case one = cases[caseCount];
            if (one == null) {
                one = new Case();
                cases[caseCount] = one;
            }
            caseCount++;
            one.begin(f, cells);
        }

        Case caseAt(int k) {
            return k >= 0 && k < caseCount && k < MOST_FIELDS ? cases[k] : null;
        }

        /** The last day to object, and the first one to enter. */
        int noticeEnd() {
            return madeOn + noticeDays;
        }

        boolean hasReady() {
            for (int k = 0; k < caseCount; k++) {
                Case one = caseAt(k);
                if (one != null && one.isReady()) {
                    return true;
                }
            }
            return false;
        }

        boolean isDone() {
            for (int k = 0; k < caseCount; k++) {
                Case one = caseAt(k);
                if (one != null && one.state != ENTERED && one.state != STRUCK_OUT) {
                    return false;
                }
            }
            return true;
        }

        long lossOf(int f) {
            long sum = 0;
            for (int k = 0; k < caseCount; k++) {
                Case one = caseAt(k);
                if (one != null && one.fieldNumber == f) {
                    sum += one.loss;
                }
            }
            return sum;
        }
    }

    /** One field's part of an order; all sums are 0 until it is entered. */
    private static final class Case {
        int fieldNumber;
        int cells;
        int state;
        int enteredOn;
        int interestRate;
        /** Interest is counted into interestKept up to this day. */
        int countedTo;
        long landWorth;
        long loss;
        long fence;
        long better;
        long due;
        long paid;
        long interestKept;
        long interestPaid;
        long ownerGets;
        final long[] rightGets = new long[MOST_RIGHTS];

        void begin(int f, int howMany) {
            fieldNumber = f;
            cells = howMany;
            state = NOTICED;
            enteredOn = 0;
            interestRate = 0;
            countedTo = 0;
            landWorth = 0;
            loss = 0;
            fence = 0;
            better = 0;
            due = 0;
            paid = 0;
            interestKept = 0;
            interestPaid = 0;
            ownerGets = 0;
            for (int r = 0; r < MOST_RIGHTS; r++) {
                rightGets[r] = 0;
            }
        }

        boolean isReady() {
            return state == NOTICED || state == KEPT;
        }

        void enterOn(int day, int rateThen) {
            state = ENTERED;
            enteredOn = day;
            countedTo = day;
            interestRate = rateThen;
        }

        long owed() {
            return due - paid;
        }

        long interestOn(int day) {
            return interestKept + owed() * interestRate * (day - countedTo) / MILLION;
        }

        /** How much of the money was taken: interest first, then what is owed. */
        long receive(long money, int day) {
            long interest = interestOn(day);
            long toInterest = Math.min(money, interest);
            long toDue = Math.min(money - toInterest, owed());
            interestKept = interest - toInterest;
            countedTo = day;
            interestPaid += toInterest;
            paid += toDue;
            return toInterest + toDue;
        }

        long tell(int what, int day) {
            switch (what) {
                case 0: return fieldNumber;
                case 1: return state;
                case 2: return enteredOn;
                case 3: return landWorth;
                case 4: return loss;
                case 5: return fence;
                case 6: return better;
                case 7: return due;
                case 8: return paid;
                case 9: return owed();
                case 10: return interestOn(day);
                case 11: return interestPaid;
                case 12: return cells;
                default: return ownerGets;
            }
        }
    }
}
