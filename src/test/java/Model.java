import java.lang.reflect.Array;
import java.math.BigInteger;
import java.util.ArrayList;
import java.util.Arrays;
import java.util.HashSet;
import java.util.List;
import java.util.Set;
import java.util.TreeMap;
import java.util.regex.Matcher;
import java.util.regex.Pattern;

/**
 * The document once more, in another way than the class: slow, with the Java library, and by other
 * means where there are some (MORE by the whole BORDER, WALLS step by step, FAULTS by a pattern,
 * tapes as real rows), so that one slip of the pen is not made twice.
 */
final class Model {
    private static final String CLAUSE =
            "(s[0-9]{2}|m[0-9]{3}|f[0-9]{5}|p[0-9]{2}|n[0-9]|e[0-9]|c[0-9]{2}|h[0-9]{2})";
    private static final Pattern SET_UP = Pattern.compile(CLAUSE + "(;" + CLAUSE + "){0,11}");
    private static final int[][] FOUR = {{-1, 0}, {0, 1}, {1, 0}, {0, -1}};
    private static final int[][] EIGHT =
            {{-1, 0}, {0, 1}, {1, 0}, {0, -1}, {-1, 1}, {1, 1}, {1, -1}, {-1, -1}};
    private static final int[][] SIX = {{-1, 0}, {0, 1}, {1, 0}, {0, -1}, {-1, 1}, {1, -1}};

    private int high = 6, wide = 6, heat = 0, seed = 1, near = 0, edges = 0, kind = 0, number = 1;
    private int[] marks = new int[36];
    private boolean[] pins = new boolean[36];
    private List<int[]> seen = new ArrayList<>(), events = new ArrayList<>(), book = new ArrayList<>();
    private String text = "";
    private Model image = null;
    private final Object[] tapes = new Object[6];

    private Model copy() {
        Model c = new Model();
        c.takeFrom(this);
        return c;
    }

    private void takeFrom(Model m) {
        high = m.high;
        wide = m.wide;
        heat = m.heat;
        seed = m.seed;
        near = m.near;
        edges = m.edges;
        kind = m.kind;
        number = m.number;
        marks = m.marks.clone();
        pins = m.pins.clone();
        seen = new ArrayList<>(m.seen);
        events = new ArrayList<>(m.events);
        book = new ArrayList<>(m.book);
    }

    private int cells() {
        return high * wide;
    }

    private boolean is(int n, int least, int most) {
        return n >= least && n <= most;
    }

    private boolean noCell(int cell) {
        return !is(cell, 0, cells() - 1);
    }

    private int[][] ways() {
        return near == 0 ? FOUR : near == 1 ? EIGHT : SIX;
    }

    private int step(int cell, int[] way) {
        int row = cell / wide + way[0], column = cell % wide + way[1];
        switch (edges) {
            case 0:
                return is(row, 0, high - 1) && is(column, 0, wide - 1) ? row * wide + column : -5;
            case 1:
                return (row + high) % high * wide + (column + wide) % wide;
            default:
                // Row by row without an end, twisted columns are one long line closed to a ring.
                return Math.floorMod(cell + way[0] * wide + way[1], cells());
        }
    }

    private int cost(int a, int b) {
        int apart = Math.min(Math.floorMod(a - b, 8), Math.floorMod(b - a, 8));
        switch (kind) {
            case 0:
                return a == b ? 0 : number;
            case 1:
                return apart > number ? number : apart;
            case 2:
                return apart == 0 || apart == number ? 0 : 2;
            default:
                return a == b ? 0 : (a & 1) == (b & 1) ? 1 : number;
        }
    }

    private int energy(int cell) {
        int sum = 0;
        for (int[] way : ways()) {
            int to = step(cell, way);
            if (to != -5) {
                sum += cost(marks[cell], marks[to]);
            }
        }
        return sum;
    }

    private int border() {
        int sum = 0;
        for (int c = 0; c < cells(); c++) {
            sum += energy(c);
        }
        if (sum % 2 != 0) {
            throw new IllegalStateException("BORDER is no whole number");
        }
        return sum / 2;
    }

    private int moreOf(int cell, int v) {
        int before = border(), was = marks[cell];
        marks[cell] = v;
        int later = border();
        marks[cell] = was;
        return later - before;
    }

    private int draw(int below) {
        long next = (long) seed * 1103515245L + 12345L;
        seed = (int) (next & 0xffffffffL);
        return (int) (((seed & 0x7fffffffL) >> 16) % below);
    }

    private int attempt(int cell, int v) {
        if (pins[cell] || marks[cell] == v) {
            return 0;
        }
        int more = moreOf(cell, v);
        if (more > 0) {
            if (heat / more == 0) {
                return 0;
            }
            if (draw(100) >= heat / more) {
                return 0;
            }
        }
        marks[cell] = v;
        return 1;
    }

    private int doTries(int n) {
        int went = 0;
        for (int t = 0; t < n; t++) {
            int cell = draw(cells());
            int to = step(cell, ways()[draw(ways().length)]);
            if (to != -5) {
                went += attempt(cell, marks[to]);
            }
        }
        return went;
    }

    private int round() {
        int changed = 0;
        for (int c = 0; c < cells(); c++) {
            if (pins[c]) {
                continue;
            }
            int was = marks[c], now = energy(c);
            TreeMap<Integer, Integer> leastMarkByEnergy = new TreeMap<>();
            for (int[] way : ways()) {
                int to = step(c, way);
                if (to != -5) {
                    marks[c] = marks[to];
                    leastMarkByEnergy.merge(energy(c), marks[to], Math::min);
                    marks[c] = was;
                }
            }
            if (!leastMarkByEnergy.isEmpty() && leastMarkByEnergy.firstKey() < now) {
                marks[c] = leastMarkByEnergy.firstEntry().getValue();
                changed++;
            }
        }
        return changed;
    }

    private int rounds(int n) {
        int sum = 0;
        for (int i = 0; i < n; i++) {
            sum += round();
        }
        return sum;
    }

    /** For each cell the least cell of its grain, by letting least ones wander until all rests. */
    private int[] leasts() {
        int[] least = new int[cells()];
        for (int c = 0; c < least.length; c++) {
            least[c] = c;
        }
        for (boolean moved = true; moved;) {
            moved = false;
            for (int c = 0; c < least.length; c++) {
                for (int[] way : ways()) {
                    int to = step(c, way);
                    if (to != -5 && marks[to] == marks[c] && least[to] != least[c]) {
                        least[c] = least[to] = Math.min(least[c], least[to]);
                        moved = true;
                    }
                }
            }
        }
        return least;
    }

    private List<List<Integer>> grains() {
        int[] least = leasts();
        TreeMap<Integer, List<Integer>> byLeast = new TreeMap<>();
        for (int c = 0; c < least.length; c++) {
            byLeast.computeIfAbsent(least[c], k -> new ArrayList<>()).add(c);
        }
        return new ArrayList<>(byLeast.values());
    }

    private int neighbours(List<Integer> grain) {
        int[] least = leasts();
        Set<Integer> others = new HashSet<>();
        for (int c : grain) {
            for (int[] way : ways()) {
                int to = step(c, way);
                if (to != -5) {
                    others.add(least[to]);
                }
            }
        }
        others.remove(least[grain.get(0)]);
        return others.size();
    }

    private int greatest() {
        return grains().stream().mapToInt(List::size).max().getAsInt();
    }

    // ---- the face

    int size(int h, int w) {
        if (!is(h, 2, 6) || !is(w, 2, 6)) {
            return -2;
        }
        int was = high * 10 + wide;
        high = h;
        wide = w;
        marks = new int[36];
        pins = new boolean[36];
        return was;
    }

    int mark(int cell, int v) {
        if (noCell(cell)) {
            return -1;
        }
        if (!is(v, 0, 7)) {
            return -2;
        }
        if (pins[cell]) {
            return -3;
        }
        int was = marks[cell];
        marks[cell] = v;
        return was;
    }

    int pin(int cell, int is) {
        if (noCell(cell)) {
            return -1;
        }
        if (!is(is, 0, 1)) {
            return -2;
        }
        int was = pins[cell] ? 1 : 0;
        pins[cell] = is == 1;
        return was;
    }

    int set(int what, int v) {
        int was;
        switch (what) {
            case 0:
                was = heat;
                if (!is(v, 0, 99)) {
                    return -2;
                }
                heat = v;
                return was;
            case 1:
                was = near;
                if (!is(v, 0, 2)) {
                    return -2;
                }
                near = v;
                return was;
            case 2:
                was = edges;
                if (!is(v, 0, 2)) {
                    return -2;
                }
                edges = v;
                return was;
            default:
                return -1;
        }
    }

    int price(int k, int n) {
        if (!is(k, 0, 3)) {
            return -1;
        }
        boolean fine = k == 0 ? is(n, 1, 9) : k == 3 ? is(n, 0, 9) : is(n, 1, 4);
        if (!fine) {
            return -2;
        }
        int was = kind * 10 + number;
        kind = k;
        number = n;
        return was;
    }

    int seed(int v) {
        int was = seed;
        seed = v;
        return was;
    }

    int change(int cell, int v) {
        return noCell(cell) ? -1 : !is(v, 0, 7) ? -2 : attempt(cell, v);
    }

    int tries(int n) {
        return is(n, 0, 200) ? doTries(n) : -2;
    }

    int cool(int n) {
        return is(n, 0, 30) ? rounds(n) : -2;
    }

    int feed(int sign) {
        if (!is(sign, 0, 127)) {
            return -2;
        }
        if (text.length() == 100) {
            return -4;
        }
        text += (char) sign;
        return text.length();
    }

    private boolean canBegin(String beginning) {
        Matcher m = SET_UP.matcher(beginning);
        return m.matches() || m.hitEnd();
    }

    int read() {
        String t = text;
        text = "";
        if (!SET_UP.matcher(t).matches()) {
            int fault = 0;
            while (fault < t.length() && canBegin(t.substring(0, fault + 1))) {
                fault++;
            }
            return -10 - fault;
        }
        int done = 0;
        for (String clause : t.split(";")) {
            if (clause(clause.charAt(0), clause.substring(1))) {
                done++;
            }
        }
        return done;
    }

    private boolean clause(char letter, String digits) {
        int all = Integer.parseInt(digits);
        switch (letter) {
            case 's':
                return size(all / 10, all % 10) >= 0;
            case 'm':
                return mark(all / 10, all % 10) >= 0;
            case 'f':
                return block(all / 1000, all / 10 % 100, all % 10);
            case 'p':
                return !noCell(all) && pin(all, pins[all] ? 0 : 1) >= 0;
            case 'n':
                return set(1, all) >= 0;
            case 'e':
                return set(2, all) >= 0;
            case 'c':
                return price(all / 10, all % 10) >= 0;
            default:
                return set(0, all) >= 0;
        }
    }

    private boolean block(int a, int b, int v) {
        if (noCell(a) || noCell(b) || v > 7 || b / wide < a / wide || b % wide < a % wide) {
            return false;
        }
        for (int r = a / wide; r <= b / wide; r++) {
            for (int c = a % wide; c <= b % wide; c++) {
                if (!pins[r * wide + c]) {
                    marks[r * wide + c] = v;
                }
            }
        }
        return true;
    }

    private int grainOf(int cell) {
        List<List<Integer>> all = grains();
        for (int g = 0; g < all.size(); g++) {
            if (all.get(g).contains(cell)) {
                return g;
            }
        }
        throw new IllegalStateException();
    }

    int of(int cell, int what) {
        if (noCell(cell) || !is(what, 0, 3)) {
            return -1;
        }
        return what == 0 ? marks[cell] : what == 1 ? (pins[cell] ? 1 : 0)
                : what == 2 ? energy(cell) : grainOf(cell);
    }

    int beside(int cell, int direction) {
        return noCell(cell) || !is(direction, 0, ways().length - 1) ? -1
                : step(cell, ways()[direction]);
    }

    int costs(int one, int other) {
        return is(one, 0, 7) && is(other, 0, 7) ? cost(one, other) : -1;
    }

    int more(int cell, int v) {
        return noCell(cell) ? -1 : !is(v, 0, 7) ? -2 : moreOf(cell, v) + 1000;
    }

    int told(int what) {
        List<List<Integer>> all = grains();
        switch (what) {
            case 0:
                return border();
            case 1:
                return all.size();
            case 2:
                return greatest();
            case 3:
                for (int g = 0;; g++) {
                    if (all.get(g).size() == greatest()) {
                        return g;
                    }
                }
            case 4:
                return (int) all.stream().filter(g -> neighbours(g) == 1).count();
            case 5:
                int found = 0;
                for (int c = 0; c < cells(); c++) {
                    found += pins[c] ? 1 : 0;
                }
                return found;
            case 6:
                return high;
            case 7:
                return wide;
            case 8:
                return heat;
            case 9:
                return near;
            case 10:
                return edges;
            case 11:
                return kind * 10 + number;
            default:
                return -1;
        }
    }

    int share(int mark) {
        if (!is(mark, 0, 7)) {
            return -1;
        }
        return (int) Arrays.stream(marks, 0, cells()).filter(m -> m == mark).count();
    }

    int grain(int grain, int what) {
        List<List<Integer>> all = grains();
        if (!is(grain, 0, all.size() - 1) || !is(what, 0, 5)) {
            return -1;
        }
        List<Integer> g = all.get(grain);
        switch (what) {
            case 0:
                return g.get(0);
            case 1:
                return marks[g.get(0)];
            case 2:
                return g.size();
            case 3:
                return g.stream().mapToInt(this::energy).sum();
            case 4:
                return neighbours(g);
            default:
                return (int) g.stream().filter(c -> pins[c]).count();
        }
    }

    int large(int n) {
        return is(n, 1, 36) ? (int) grains().stream().filter(g -> g.size() >= n).count() : -2;
    }

    int meets(int side, int n) {
        if (!is(side, 0, 1)) {
            return -1;
        }
        if (!is(n, 1, 4)) {
            return -2;
        }
        int[] least = leasts();
        int square = 0, found = 0, first = -5;
        for (int r = 0; r + 1 < high; r++) {
            for (int c = 0; c + 1 < wide; c++, square++) {
                Set<Integer> met = new HashSet<>();
                for (int k = 0; k < 4; k++) {
                    met.add(least[(r + k / 2) * wide + c + k % 2]);
                }
                if (met.size() == n) {
                    found++;
                    first = first == -5 ? square : first;
                }
            }
        }
        return side == 0 ? found : first;
    }

    int walls(int one, int other) {
        if (noCell(one) || noCell(other)) {
            return -1;
        }
        int[] least = leasts();
        int[] far = new int[cells()];
        Arrays.fill(far, 1000);
        far[one] = 0;
        for (boolean moved = true; moved;) {
            moved = false;
            for (int c = 0; c < far.length; c++) {
                for (int[] way : ways()) {
                    int to = step(c, way);
                    if (to != -5 && far[c] + (least[c] == least[to] ? 0 : 1) < far[to]) {
                        far[to] = far[c] + (least[c] == least[to] ? 0 : 1);
                        moved = true;
                    }
                }
            }
        }
        return far[other];
    }

    int gone(int cell) {
        if (noCell(cell)) {
            return -1;
        }
        List<Integer> grain = grains().get(grainOf(cell));
        for (int n = 0; n <= 30; n++) {
            Model m = copy();
            m.rounds(n);
            if (grain.stream().noneMatch(c -> m.marks[c] == marks[cell])) {
                return n;
            }
        }
        return -5;
    }

    int cold(int what) {
        if (!is(what, 0, 1)) {
            return -1;
        }
        Model m = copy();
        for (int n = 0; n < 30; n++) {
            int[] before = m.marks.clone();
            m.round();
            if (Arrays.equals(before, m.marks)) {
                return what == 0 ? n : m.border();
            }
        }
        return what == 0 ? -5 : m.border();
    }

    int best(int what) {
        if (!is(what, 0, 2)) {
            return -1;
        }
        int least = 0;
        for (int c = 0; c < cells(); c++) {
            for (int v = 0; v < 8; v++) {
                least = pins[c] ? least : Math.min(least, moreOf(c, v));
            }
        }
        for (int c = 0; c < cells() && least < 0; c++) {
            for (int v = 0; v < 8; v++) {
                if (!pins[c] && v != marks[c] && moreOf(c, v) == least) {
                    return what == 0 ? c : what == 1 ? v : -least;
                }
            }
        }
        return -5;
    }

    private int row(List<int[]> rows, int most, int cell, int v) {
        if (cell == -1) {
            rows.clear();
            return 0;
        }
        if (noCell(cell)) {
            return -1;
        }
        if (!is(v, 0, 7)) {
            return -2;
        }
        if (rows.size() == most) {
            return -4;
        }
        rows.add(new int[] {cell, v});
        return rows.size();
    }

    int see(int cell, int v) {
        return row(seen, 6, cell, v);
    }

    int fits(int n, int what) {
        if (!is(n, 0, 60)) {
            return -2;
        }
        if (!is(what, 0, 1)) {
            return -1;
        }
        List<Integer> fitting = new ArrayList<>();
        for (int s = 0; s < 100; s++) {
            Model m = copy();
            m.seed = s;
            m.doTries(n);
            if (seen.stream().allMatch(r -> r[0] < cells() && m.marks[r[0]] == r[1])) {
                fitting.add(s);
            }
        }
        return what == 0 ? fitting.size() : fitting.isEmpty() ? -5 : fitting.get(0);
    }

    private static long lowest(long above, long below, int part) {
        BigInteger a = BigInteger.valueOf(above), b = BigInteger.valueOf(below);
        return (part == 0 ? a : b).divide(a.gcd(b)).longValueExact();
    }

    long odds(int part) {
        if (!is(part, 0, 1)) {
            return Long.MIN_VALUE;
        }
        long hundredths = 0;
        for (int c = 0; c < cells(); c++) {
            for (int[] way : ways()) {
                int to = step(c, way);
                if (to == -5 || pins[c] || marks[to] == marks[c]) {
                    continue;
                }
                int more = moreOf(c, marks[to]);
                hundredths += more <= 0 ? 100 : heat / more;
            }
        }
        return lowest(hundredths, 100L * cells() * ways().length, part);
    }

    long mean(int part) {
        return is(part, 0, 1) ? lowest(cells(), grains().size(), part) : Long.MIN_VALUE;
    }

    long worth(long per) {
        BigInteger p = BigInteger.valueOf(per);
        BigInteger square = p.multiply(p);
        BigInteger byBorder = square.multiply(BigInteger.valueOf(border()));
        BigInteger byGrains = p.multiply(BigInteger.valueOf(grains().size()));
        BigInteger sum = byBorder.add(byGrains);
        for (BigInteger b : List.of(square, byBorder, byGrains, sum)) {
            if (b.bitLength() > 63) {
                return Long.MIN_VALUE;
            }
        }
        return sum.longValueExact();
    }

    int event(int what, int n) {
        if (what == -1) {
            events.clear();
            return 0;
        }
        if (!is(what, 0, 4) || what == 2 && noCell(n)) {
            return -1;
        }
        int[] most = {60, 9, 35, 99, 99};
        if (!is(n, 0, most[what])) {
            return -2;
        }
        if (events.size() == 8) {
            return -4;
        }
        events.add(new int[] {what, n});
        return events.size();
    }

    int after(int what) {
        if (!is(what, 0, 2)) {
            return -1;
        }
        Model m = copy();
        for (int[] e : events) {
            if (e[0] == 0) {
                m.doTries(e[1]);
            } else if (e[0] == 1) {
                m.rounds(e[1]);
            } else if (e[0] == 2 && e[1] < cells()) {
                m.pins[e[1]] = !m.pins[e[1]];
            } else if (e[0] == 3) {
                m.heat = e[1];
            } else if (e[0] == 4) {
                m.seed = e[1];
            }
        }
        return what == 0 ? m.border() : what == 1 ? m.grains().size() : m.greatest();
    }

    int book(int cell, int v) {
        return row(book, 8, cell, v);
    }

    int looked() {
        for (int i = 0; i < book.size(); i++) {
            if (book.get(i)[0] >= cells() || marks[book.get(i)[0]] != book.get(i)[1]) {
                return i;
            }
        }
        return -5;
    }

    int judge(int tape, int i) {
        if (!is(tape, 0, 5)) {
            return -1;
        }
        Object t = tapes[tape];
        if (t != null && !(t instanceof byte[])) {
            return -12;
        }
        if (t == null || i < 0) {
            return 100;
        }
        byte[] row = (byte[]) t;
        int looked = 0;
        for (long place = i; place < row.length && looked < cells(); place++, looked++) {
            if (row[(int) place] != marks[looked]) {
                return looked;
            }
        }
        return looked == cells() ? -5 : 100 + looked;
    }

    int image() {
        image = copy();
        return border();
    }

    int undo() {
        if (image == null) {
            return -3;
        }
        takeFrom(image);
        return border();
    }

    int count(int what) {
        return what == 0 ? seen.size() : what == 1 ? events.size() : what == 2 ? book.size()
                : what == 3 ? text.length() : -2;
    }

    int tape(int tape, int sort, int n) {
        if (!is(tape, 0, 5)) {
            return -1;
        }
        if (sort == -1) {
            tapes[tape] = null;
            return 1;
        }
        if (!is(sort, 0, 4) || n > 60) {
            return -2;
        }
        if (n < 0) {
            return -14;
        }
        Class<?>[] sorts = {byte.class, short.class, int.class, long.class, boolean.class};
        tapes[tape] = Array.newInstance(sorts[sort], n);
        return 1;
    }

    int item(int tape, int i, long v) {
        if (!is(tape, 0, 5)) {
            return -1;
        }
        Object t = tapes[tape];
        if (t == null) {
            return -11;
        }
        if (!is(i, 0, Array.getLength(t) - 1)) {
            return -13;
        }
        if (t instanceof byte[]) {
            ((byte[]) t)[i] = (byte) v;
        } else if (t instanceof short[]) {
            ((short[]) t)[i] = (short) v;
        } else if (t instanceof int[]) {
            ((int[]) t)[i] = (int) v;
        } else if (t instanceof long[]) {
            ((long[]) t)[i] = v;
        } else {
            ((boolean[]) t)[i] = v != 0;
        }
        return 1;
    }

    long peek(int tape, int i) {
        if (!is(tape, 0, 5) || tapes[tape] == null || !is(i, 0, Array.getLength(tapes[tape]) - 1)) {
            return Long.MIN_VALUE;
        }
        Object t = tapes[tape];
        return t instanceof boolean[] ? (((boolean[]) t)[i] ? 1 : 0) : Array.getLong(t, i);
    }

    int shift(int tape, int i, int other, int j, int n) {
        if (!is(tape, 0, 5) || !is(other, 0, 5)) {
            return -1;
        }
        Object from = tapes[tape], to = tapes[other];
        if (from == null || to == null) {
            return -11;
        }
        if (from.getClass() != to.getClass()) {
            return -12;
        }
        try {
            System.arraycopy(from, i, to, j, n);
        } catch (IndexOutOfBoundsException e) {
            return -13;
        }
        return n;
    }
}
