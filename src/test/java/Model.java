import java.util.ArrayList;
import java.util.List;
import java.util.Map;
import java.util.TreeMap;
import java.util.TreeSet;

/**
 * A second writing of the document, as plain as can be: it keeps what was told and works out all else anew from that
 * for each question (what is taken, what is left of a debt, interest), so that it shares no bookkeeping with the class.
 */
final class Model {
    static final int NONE = -1, UNKNOWN = -101, OUTSIDE = -102, STATE = -103, FULL = -104;

    static final class Plot {
        int owner = NONE;
        int soil;
        boolean lane;
        boolean line;
    }

    static final class Holding {
        int house = NONE;
        final List<int[]> rights = new ArrayList<>();
    }

    static final class Matter {
        int field;
        TreeSet<Integer> cells = new TreeSet<>();
        boolean objected;
        boolean heard;
        boolean struck;
        int entry = NONE;
        int interest;
        long land;
        long loss;
        long fence;
        long better;
        final List<Long> gets = new ArrayList<>();
        final List<long[]> payments = new ArrayList<>();

        long due() {
            return land + loss + fence - better;
        }

        boolean over() {
            return struck || entry != NONE;
        }

        boolean ready() {
            return !over() && objected == heard;
        }

        int state() {
            return entry != NONE ? 4 : struck ? 3 : heard ? 2 : objected ? 1 : 0;
        }
    }

    static final class Decree {
        int made;
        int notice;
        boolean begun;
        final TreeSet<Integer> common = new TreeSet<>();
        final List<Matter> matters = new ArrayList<>();

        boolean done() {
            return matters.stream().allMatch(Matter::over);
        }
    }

    private int w = 1;
    private int h = 1;
    private TreeMap<Integer, Plot> plots = new TreeMap<>(Map.of(0, new Plot()));
    private List<Holding> holdings = new ArrayList<>();
    private final List<TreeMap<Integer, Integer>> prices =
            List.of(new TreeMap<>(), new TreeMap<>(), new TreeMap<>(), new TreeMap<>());
    private final int[] rates = {0, 0, 0, 0, 28};
    private int day;
    private final List<Decree> decrees = new ArrayList<>();
    private int undone;

    private static boolean in(long v, long from, long to) {
        return v >= from && v <= to;
    }

    private boolean shut() {
        return decrees.size() + undone > 0;
    }

    private boolean known(int x, int y) {
        return in(x, 0, w - 1) && in(y, 0, h - 1);
    }

    private boolean isField(int f) {
        return in(f, 0, holdings.size() - 1);
    }

    private boolean taken(int place) {
        for (Decree d : decrees) {
            if (d.begun && d.common.contains(place)) {
                return true;
            }
            for (Matter m : d.matters) {
                if (m.entry != NONE && m.cells.contains(place)) {
                    return true;
                }
            }
        }
        return false;
    }

    private Decree open() {
        if (decrees.isEmpty()) {
            return null;
        }
        Decree last = decrees.get(decrees.size() - 1);
        return last.done() ? null : last;
    }

    int map(int nw, int nh) {
        if (!in(nw, 1, 16) || !in(nh, 1, 16)) {
            return OUTSIDE;
        }
        if (shut()) {
            return STATE;
        }
        w = nw;
        h = nh;
        plots = new TreeMap<>();
        for (int y = 0; y < h; y++) {
            for (int x = 0; x < w; x++) {
                plots.put(16 * y + x, new Plot());
            }
        }
        holdings = new ArrayList<>();
        return plots.size();
    }

    int field() {
        if (shut()) {
            return STATE;
        }
        if (holdings.size() == 12) {
            return FULL;
        }
        holdings.add(new Holding());
        return holdings.size() - 1;
    }

    private void noHouseAt(int place) {
        for (Holding one : holdings) {
            if (one.house == place) {
                one.house = NONE;
            }
        }
    }

    int cell(int x, int y, int f, int soil) {
        if (!known(x, y) || !(f == NONE || isField(f))) {
            return UNKNOWN;
        }
        if (!in(soil, 0, 3)) {
            return OUTSIDE;
        }
        if (shut()) {
            return STATE;
        }
        noHouseAt(16 * y + x);
        Plot p = plots.get(16 * y + x);
        p.owner = f;
        p.soil = soil;
        p.lane = false;
        return 1;
    }

    int lane(int x, int y) {
        if (!known(x, y)) {
            return UNKNOWN;
        }
        if (shut()) {
            return STATE;
        }
        noHouseAt(16 * y + x);
        Plot p = plots.get(16 * y + x);
        p.owner = NONE;
        p.lane = true;
        return 1;
    }

    int house(int f, int x, int y) {
        if (!isField(f) || !known(x, y)) {
            return UNKNOWN;
        }
        if (plots.get(16 * y + x).owner != f) {
            return OUTSIDE;
        }
        if (shut()) {
            return STATE;
        }
        holdings.get(f).house = 16 * y + x;
        return 1;
    }

    int right(int f, int kind, int amount) {
        if (!isField(f)) {
            return UNKNOWN;
        }
        if (!in(kind, 1, 2) || !in(amount, 0, kind == 1 ? 1000000 : 1000)) {
            return OUTSIDE;
        }
        if (shut()) {
            return STATE;
        }
        List<int[]> rights = holdings.get(f).rights;
        if (rights.size() == 4) {
            return FULL;
        }
        rights.add(new int[] {kind, amount});
        return rights.size();
    }

    int price(int soil, int from, int price) {
        if (!in(soil, 0, 3)) {
            return UNKNOWN;
        }
        if (!in(from, 0, 10000) || !in(price, 0, 100000)) {
            return OUTSIDE;
        }
        TreeMap<Integer, Integer> of = prices.get(soil);
        if (of.size() == 20 && !of.containsKey(from)) {
            return FULL;
        }
        of.put(from, price);
        return of.size();
    }

    int costs(int soil, int on) {
        if (!in(soil, 0, 3)) {
            return UNKNOWN;
        }
        if (!in(on, 0, 10000)) {
            return OUTSIDE;
        }
        Map.Entry<Integer, Integer> entry = prices.get(soil).floorEntry(on);
        return entry == null ? 0 : entry.getValue();
    }

    int rate(int k, int v) {
        if (!in(k, 0, 4)) {
            return UNKNOWN;
        }
        int most = k == 1 ? 100000 : k == 3 ? 10000 : 1000;
        if (!in(v, 0, most)) {
            return OUTSIDE;
        }
        int was = rates[k];
        rates[k] = v;
        return was;
    }

    int days(int n) {
        if (!in(n, 1, 1000) || day + n > 10000) {
            return OUTSIDE;
        }
        day += n;
        return day;
    }

    int line(int x, int y, boolean is) {
        if (!known(x, y)) {
            return UNKNOWN;
        }
        if (open() != null || taken(16 * y + x)) {
            return STATE;
        }
        Plot p = plots.get(16 * y + x);
        int was = p.line ? 1 : 0;
        p.line = is;
        return was;
    }

    int make() {
        if (open() != null) {
            return STATE;
        }
        Decree d = new Decree();
        d.made = day;
        d.notice = rates[4];
        TreeMap<Integer, Matter> byField = new TreeMap<>();
        plots.forEach((place, p) -> {
            if (p.line && p.owner == NONE) {
                d.common.add(place);
            } else if (p.line && !taken(place)) {
                Matter m = byField.computeIfAbsent(p.owner, f -> new Matter());
                m.field = p.owner;
                m.cells.add(place);
            }
        });
        if (byField.isEmpty()) {
            return OUTSIDE;
        }
        if (decrees.size() == 60) {
            return FULL;
        }
        d.matters.addAll(byField.values());
        decrees.add(d);
        return d.matters.size();
    }

    int object(int k) {
        Decree d = open();
        if (d == null) {
            return STATE;
        }
        if (!in(k, 0, d.matters.size() - 1)) {
            return UNKNOWN;
        }
        Matter m = d.matters.get(k);
        if (m.objected || m.over() || day - d.made > d.notice) {
            return STATE;
        }
        m.objected = true;
        return 1;
    }

    int hear(int k, boolean strike) {
        Decree d = open();
        if (d == null) {
            return STATE;
        }
        if (!in(k, 0, d.matters.size() - 1)) {
            return UNKNOWN;
        }
        Matter m = d.matters.get(k);
        if (!m.objected || m.heard) {
            return STATE;
        }
        m.heard = true;
        m.struck = strike;
        endLine(d);
        return 1;
    }

    private void endLine(Decree d) {
        if (d.done()) {
            plots.values().forEach(p -> p.line = false);
        }
    }

    int enter() {
        Decree d = open();
        if (d == null || day - d.made < d.notice) {
            return STATE;
        }
        List<Matter> now = d.matters.stream().filter(Matter::ready).toList();
        if (now.isEmpty()) {
            return STATE;
        }
        d.begun = true;
        now.forEach(m -> m.entry = day);
        for (Matter m : now) {
            settle(d, m);
        }
        endLine(d);
        return now.size();
    }

    private long worth(Iterable<Integer> cells) {
        long sum = 0;
        for (int place : cells) {
            sum += costs(plots.get(place).soil, day);
        }
        return sum;
    }

    private void settle(Decree of, Matter m) {
        Holding holding = holdings.get(m.field);
        List<TreeSet<Integer>> parts = parts(m.field);
        TreeSet<Integer> main = main(m.field, parts);
        m.interest = rates[3];
        m.land = worth(m.cells);
        for (TreeSet<Integer> part : parts) {
            if (part != main) {
                m.loss += !way(part) && way(main) ? worth(part) : worth(part) * rates[0] / 1000;
            }
        }
        for (Decree d : decrees) {
            for (Matter other : d.matters) {
                if (d != of && other.field == m.field) {
                    m.loss -= other.loss;
                }
            }
        }
        m.loss = Math.max(m.loss, 0);
        for (int place : m.cells) {
            for (int next : around(place)) {
                if (plots.get(next).owner == m.field && !taken(next)) {
                    m.fence += rates[1];
                }
            }
        }
        if (main != null) {
            m.better = Math.min(m.due(), worth(main) * rates[2] / 1000);
        }
        long left = m.due();
        for (int r = 0; r < holding.rights.size(); r++) {
            int[] right = holding.rights.get(r);
            long part = right[0] == 2 ? m.due() * right[1] / 1000 : right[1] - gotBefore(m, r);
            part = Math.min(part, left);
            m.gets.add(part);
            left -= part;
        }
    }

    private long gotBefore(Matter now, int r) {
        long sum = 0;
        for (Decree d : decrees) {
            for (Matter m : d.matters) {
                if (m != now && m.field == now.field && m.gets.size() > r) {
                    sum += m.gets.get(r);
                }
            }
        }
        return sum;
    }

    private List<Integer> around(int place) {
        List<Integer> all = new ArrayList<>();
        for (int next : new int[] {place - 16, place - 1, place + 1, place + 16}) {
            boolean beside = Math.abs(next % 16 - place % 16) + Math.abs(next / 16 - place / 16) == 1;
            if (beside && plots.containsKey(next)) {
                all.add(next);
            }
        }
        return all;
    }

    /** Each cell alone at first, then joined as long as two parts border; in order of their first cells. */
    private List<TreeSet<Integer>> parts(int f) {
        List<TreeSet<Integer>> parts = new ArrayList<>();
        plots.forEach((place, p) -> {
            if (p.owner == f && !taken(place)) {
                TreeSet<Integer> joined = new TreeSet<>(List.of(place));
                for (int next : around(place)) {
                    for (TreeSet<Integer> part : List.copyOf(parts)) {
                        if (part.contains(next)) {
                            parts.remove(part);
                            joined.addAll(part);
                        }
                    }
                }
                parts.add(joined);
            }
        });
        parts.sort((a, b) -> a.first() - b.first());
        return parts;
    }

    private TreeSet<Integer> main(int f, List<TreeSet<Integer>> parts) {
        TreeSet<Integer> best = null;
        for (TreeSet<Integer> part : parts) {
            if (part.contains(holdings.get(f).house)) {
                return part;
            }
            if (best == null || part.size() > best.size()) {
                best = part;
            }
        }
        return best;
    }

    private boolean way(TreeSet<Integer> part) {
        return part.stream().flatMap(c -> around(c).stream()).anyMatch(c -> plots.get(c).lane && !taken(c));
    }

    /** paid of DUE, OWED, INTEREST not paid, INTEREST paid; and last what was taken of the last payment. */
    private long[] account(Matter m) {
        long owed = m.due();
        long kept = 0;
        long interestPaid = 0;
        long last = 0;
        long since = m.entry;
        for (long[] payment : m.payments) {
            kept += owed * m.interest * (payment[0] - since) / 1000000;
            since = payment[0];
            long first = Math.min(kept, payment[1]);
            long then = Math.min(owed, payment[1] - first);
            kept -= first;
            interestPaid += first;
            owed -= then;
            last = first + then;
        }
        kept += owed * m.interest * (day - since) / 1000000;
        return new long[] {m.due() - owed, owed, kept, interestPaid, last};
    }

    long undo() {
        if (decrees.isEmpty() || open() != null) {
            return STATE;
        }
        long back = 0;
        for (Matter m : decrees.remove(decrees.size() - 1).matters) {
            back += m.entry == NONE ? 0 : account(m)[0] + account(m)[3];
        }
        undone++;
        return back;
    }

    private Matter matter(int o, int k) {
        return in(o, 0, decrees.size() - 1) && in(k, 0, decrees.get(o).matters.size() - 1)
                ? decrees.get(o).matters.get(k) : null;
    }

    long pay(int o, int k, long v) {
        Matter m = matter(o, k);
        if (m == null) {
            return UNKNOWN;
        }
        if (!in(v, 1, 1000000000)) {
            return OUTSIDE;
        }
        if (m.entry == NONE) {
            return STATE;
        }
        m.payments.add(new long[] {day, v});
        return account(m)[4];
    }

    long told(int o, int k, int what) {
        Matter m = matter(o, k);
        if (m == null) {
            return UNKNOWN;
        }
        if (!in(what, 0, 13)) {
            return OUTSIDE;
        }
        if (m.entry == NONE) {
            return what == 0 ? m.field : what == 1 ? m.state() : what == 12 ? m.cells.size() : 0;
        }
        long[] account = account(m);
        long owner = m.due() - m.gets.stream().mapToLong(Long::longValue).sum();
        return new long[] {m.field, m.state(), m.entry, m.land, m.loss, m.fence, m.better, m.due(), account[0],
            account[1], account[2], account[3], m.cells.size(), owner}[what];
    }

    long gets(int o, int k, int r) {
        Matter m = matter(o, k);
        if (m == null || !in(r, 0, holdings.get(m.field).rights.size() - 1)) {
            return UNKNOWN;
        }
        return m.entry == NONE ? 0 : m.gets.get(r);
    }

    int look(int x, int y, int what) {
        if (!known(x, y)) {
            return UNKNOWN;
        }
        if (!in(what, 0, 4)) {
            return OUTSIDE;
        }
        Plot p = plots.get(16 * y + x);
        boolean is = what == 2 ? p.lane : what == 3 ? taken(16 * y + x) : p.line;
        return what == 0 ? p.owner : what == 1 ? p.soil : is ? 1 : 0;
    }

    int pieces(int f) {
        return isField(f) ? parts(f).size() : UNKNOWN;
    }

    int piece(int f, int i, int what) {
        if (!isField(f) || !in(i, 0, parts(f).size() - 1)) {
            return UNKNOWN;
        }
        if (!in(what, 0, 3)) {
            return OUTSIDE;
        }
        List<TreeSet<Integer>> parts = parts(f);
        TreeSet<Integer> part = parts.get(i);
        boolean is = what == 2 ? part == main(f, parts) : way(part);
        return what == 0 ? part.size() : what == 1 ? part.first() : is ? 1 : 0;
    }

    int count(int what) {
        int takenNow = (int) plots.keySet().stream().filter(this::taken).count();
        int inLine = (int) plots.values().stream().filter(p -> p.line).count();
        int cases = decrees.isEmpty() ? 0 : decrees.get(decrees.size() - 1).matters.size();
        int[] all = {holdings.size(), takenNow, inLine, decrees.size(), cases, day, open() == null ? 0 : 1, undone};
        return in(what, 0, 7) ? all[what] : OUTSIDE;
    }

    long digest() {
        List<Long> all = new ArrayList<>(List.of((long) w, (long) h));
        plots.forEach((place, p) -> {
            for (int what = 0; what < 5; what++) {
                all.add((long) look(place % 16, place / 16, what));
            }
        });
        for (Holding holding : holdings) {
            all.add((long) holding.house);
            holding.rights.forEach(right -> all.addAll(List.of((long) right[0], (long) right[1])));
        }
        for (int o = 0; o < decrees.size(); o++) {
            all.add((long) decrees.get(o).made);
            for (int k = 0; k < decrees.get(o).matters.size(); k++) {
                for (int what = 0; what < 14; what++) {
                    all.add(told(o, k, what));
                }
            }
        }
        for (int rate : rates) {
            all.add((long) rate);
        }
        for (int what = 5; what < 8; what++) {
            all.add((long) count(what));
        }
        long sum = 127;
        for (long number : all) {
            sum = 31 * sum + number;
        }
        return sum;
    }
}
