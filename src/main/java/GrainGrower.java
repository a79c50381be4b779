import java.util.Arrays;

/**
 * A lattice of crystal marks whose grains grow where that makes less border. The words in capitals
 * are those of the document; the promise that a public method keeps is named by its number.
 */
public final class GrainGrower {
    public static final int NONE = -1, BAD = -2, STATE = -3, FULL = -4;
    public static final long NO = Long.MIN_VALUE;

    private static final int NOWHERE = -5;
    private static final int NOTHING = -11, CAST = -12, PLACE = -13, SIZE = -14;

    private static final int LEAST_SIDE = 2, MOST_SIDE = 6, MOST_CELLS = 36;
    private static final int MARK_COUNT = 8, MOST_DIRECTIONS = 8;
    private static final int HEAT = 0, NEAR = 1, EDGES = 2;
    private static final int MOST_HEAT = 99, CERTAIN = 100;
    private static final int MOST_TRIES = 200, MOST_ROUNDS = 30;
    private static final int MOST_FIT_TRIES = 60, SEEDS_TRIED = 100;
    private static final int MORE_SHOWN_FROM = 1000;
    private static final int MOST_SEEN = 6, MOST_EVENTS = 8, MOST_BOOK = 8;
    private static final int TAPE_COUNT = 6, MOST_ITEMS = 60;
    private static final int JUDGED_SHORT = 100;

    private final World now = new World();
    private final World kept = new World();
    // What is only asked runs on this copy, so that it changes nothing.
    private final Lattice trial = new Lattice();
    private final Grains grains = new Grains();
    private final SetUp text = new SetUp();
    private final Tape[] tapes = new Tape[TAPE_COUNT];
    private boolean isKept;

    /** Promise 1. */
    public GrainGrower() {
        for (int i = 0; i < tapes.length; i++) {
            tapes[i] = new Tape();
        }
    }

    // ---- the lattice

    /** Promise 2. */
    public int size(int high, int wide) {
        return now.lattice.resize(high, wide);
    }

    /** Promise 3. */
    public int mark(int cell, int v) {
        return now.lattice.putMark(cell, v);
    }

    /** Promise 4. */
    public int pin(int cell, int is) {
        return now.lattice.putPin(cell, is);
    }

    /** Promise 5. */
    public int set(int what, int v) {
        return now.lattice.assign(what, v);
    }

    /** Promise 6. */
    public int price(int kind, int n) {
        return now.lattice.putPrice(kind, n);
    }

    /** Promise 7. */
    public int seed(int v) {
        int was = now.lattice.seed;
        now.lattice.seed = v;
        return was;
    }

    /** Promise 8. */
    public int change(int cell, int v) {
        if (!now.lattice.hasCell(cell)) {
            return NONE;
        }
        if (!isMark(v)) {
            return BAD;
        }
        return now.lattice.attempt(cell, v);
    }

    /** Promise 9. */
    public int tries(int n) {
        if (n < 0 || n > MOST_TRIES) {
            return BAD;
        }
        return now.lattice.runTries(n);
    }

    /** Promise 10. */
    public int cool(int n) {
        if (n < 0 || n > MOST_ROUNDS) {
            return BAD;
        }
        return now.lattice.runRounds(n);
    }

    /** Promise 11. */
    public int feed(int sign) {
        return text.append(sign);
    }

    /** Promise 12. */
    public int read() {
        int fault = text.findFault();
        int answer = fault >= 0 ? -10 - fault : text.carryOut(now.lattice);
        text.length = 0;
        return answer;
    }

    // ---- what is told

    /** Promise 13. */
    public int of(int cell, int what) {
        Lattice lattice = now.lattice;
        if (!lattice.hasCell(cell)) {
            return NONE;
        }
        switch (what) {
            case 0:
                return lattice.marks[cell];
            case 1:
                return lattice.pins[cell];
            case 2:
                return lattice.energyOf(cell);
            case 3:
                grains.find(lattice);
                return grains.grainOf[cell];
            default:
                return NONE;
        }
    }

    /** Promise 14. */
    public int beside(int cell, int direction) {
        Lattice lattice = now.lattice;
        if (!lattice.hasCell(cell) || direction < 0 || direction >= lattice.directions()) {
            return NONE;
        }
        return lattice.links[cell * MOST_DIRECTIONS + direction];
    }

    /** Promise 15. */
    public int costs(int one, int other) {
        if (!isMark(one) || !isMark(other)) {
            return NONE;
        }
        return now.lattice.prices[one * MARK_COUNT + other];
    }

    /** Promise 16. */
    public int more(int cell, int v) {
        if (!now.lattice.hasCell(cell)) {
            return NONE;
        }
        if (!isMark(v)) {
            return BAD;
        }
        return MORE_SHOWN_FROM + now.lattice.moreWith(cell, v);
    }

    /** Promise 17. */
    public int told(int what) {
        Lattice lattice = now.lattice;
        switch (what) {
            case 0:
                return lattice.border();
            case 1:
            case 2:
            case 3:
            case 4:
                return toldOfGrains(what);
            case 5:
                return lattice.pinCount();
            case 6:
                return lattice.high;
            case 7:
                return lattice.wide;
            case 8:
                return lattice.heat;
            case 9:
                return lattice.near;
            case 10:
                return lattice.edges;
            case 11:
                return lattice.priceShown();
            default:
                return NONE;
        }
    }

    private int toldOfGrains(int what) {
        grains.find(now.lattice);
        switch (what) {
            case 1:
                return grains.total;
            case 2:
                return grains.greatestSize();
            case 3:
                return grains.firstGreatest();
            default:
                return grains.islands();
        }
    }

    /** Promise 18. */
    public int share(int mark) {
        if (!isMark(mark)) {
            return NONE;
        }
        return now.lattice.cellsWith(mark);
    }

    // ---- grains

    /** Promise 19. */
    public int grain(int grain, int what) {
        Lattice lattice = now.lattice;
        grains.find(lattice);
        if (grain < 0 || grain >= grains.total) {
            return NONE;
        }
        switch (what) {
            case 0:
                return grains.leastCells[grain];
            case 1:
                return lattice.marks[grains.leastCells[grain]];
            case 2:
                return grains.sizes[grain];
            case 3:
                return grains.rim(lattice, grain);
            case 4:
                return grains.neighbours(grain);
            case 5:
                return grains.pinned(lattice, grain);
            default:
                return NONE;
        }
    }

    /** Promise 20. */
    public int large(int n) {
        if (n < 1 || n > MOST_CELLS) {
            return BAD;
        }
        grains.find(now.lattice);
        return grains.countFrom(n);
    }

    /** Promise 21. */
    public int meets(int side, int n) {
        if (side < 0 || side > 1) {
            return NONE;
        }
        if (n < 1 || n > 4) {
            return BAD;
        }
        grains.find(now.lattice);
        return side == 0 ? squaresMeeting(n) : firstSquareMeeting(n);
    }

    private int squaresMeeting(int n) {
        Lattice lattice = now.lattice;
        int found = 0;
        for (int square = 0; square < lattice.squares(); square++) {
            if (grains.metAt(lattice, square) == n) {
                found++;
            }
        }
        return found;
    }

    private int firstSquareMeeting(int n) {
        Lattice lattice = now.lattice;
        for (int square = 0; square < lattice.squares(); square++) {
            if (grains.metAt(lattice, square) == n) {
                return square;
            }
        }
        return NOWHERE;
    }

    /** Promise 22. */
    public int walls(int one, int other) {
        Lattice lattice = now.lattice;
        if (!lattice.hasCell(one) || !lattice.hasCell(other)) {
            return NONE;
        }
        grains.find(lattice);
        return grains.wallsBetween(grains.grainOf[one], grains.grainOf[other]);
    }

    /** Promise 23. */
    public int gone(int cell) {
        Lattice lattice = now.lattice;
        if (!lattice.hasCell(cell)) {
            return NONE;
        }
        grains.find(lattice);
        trial.takeFrom(lattice);
        for (int round = 1; round <= MOST_ROUNDS; round++) {
            if (trial.coolRound() == 0) {
                return NOWHERE;
            }
            if (!grains.anyHas(trial, grains.grainOf[cell], lattice.marks[cell])) {
                return round;
            }
        }
        return NOWHERE;
    }

    /** Promise 24. */
    public int cold(int what) {
        if (what < 0 || what > 1) {
            return NONE;
        }
        trial.takeFrom(now.lattice);
        int rounds = trial.roundsUntilStill();
        return what == 0 ? rounds : trial.border();
    }

    /** Promise 25. */
    public int best(int what) {
        if (what < 0 || what > 2) {
            return NONE;
        }
        Lattice lattice = now.lattice;
        int bestCell = NOWHERE;
        int bestMark = NOWHERE;
        int least = 0;
        for (int cell = 0; cell < lattice.cells(); cell++) {
            for (int v = 0; v < MARK_COUNT && lattice.pins[cell] == 0; v++) {
                int more = lattice.moreWith(cell, v);
                if (more < least) {
                    bestCell = cell;
                    bestMark = v;
                    least = more;
                }
            }
        }
        if (what == 2) {
            return bestCell < 0 ? NOWHERE : -least;
        }
        return what == 0 ? bestCell : bestMark;
    }

    // ---- seen, odds

    /** Promise 26. */
    public int see(int cell, int v) {
        return appendCellAndMark(now.seen, cell, v);
    }

    private int appendCellAndMark(Rows rows, int cell, int v) {
        if (cell == -1) {
            rows.count = 0;
            return 0;
        }
        if (!now.lattice.hasCell(cell)) {
            return NONE;
        }
        if (!isMark(v)) {
            return BAD;
        }
        return rows.append(cell, v);
    }

    /** Promise 27. */
    public int fits(int n, int what) {
        if (n < 0 || n > MOST_FIT_TRIES) {
            return BAD;
        }
        if (what < 0 || what > 1) {
            return NONE;
        }
        trial.takeFrom(now.lattice);
        int found = 0;
        int least = NOWHERE;
        for (int s = 0; s < SEEDS_TRIED; s++) {
            if (fitsBySeed(s, n)) {
                least = found == 0 ? s : least;
                found++;
            }
        }
        return what == 0 ? found : least;
    }

    private boolean fitsBySeed(int s, int n) {
        // TRIES change MARKS and SEED alone, so the rest of the copy still holds.
        trial.takeMarks(now.lattice);
        trial.seed = s;
        trial.runTries(n);
        return now.seen.firstUnlike(trial) < 0;
    }

    /** Promise 28. */
    public long odds(int part) {
        if (part < 0 || part > 1) {
            return NO;
        }
        Lattice lattice = now.lattice;
        long ways = (long) lattice.cells() * lattice.directions() * CERTAIN;
        return partInLowestTerms(lattice.hundredthsOfAllTries(), ways, part);
    }

    /** Promise 29. */
    public long mean(int part) {
        if (part < 0 || part > 1) {
            return NO;
        }
        grains.find(now.lattice);
        return partInLowestTerms(now.lattice.cells(), grains.total, part);
    }

    private static long partInLowestTerms(long above, long below, int part) {
        long divisor = greatestDivisor(above, below);
        if (divisor == 0) {
            return NO;
        }
        return (part == 0 ? above : below) / divisor;
    }

    private static long greatestDivisor(long one, long other) {
        long a = one;
        long b = other;
        // Euclid's steps on longs are fewer than a hundred.
        for (int step = 0; step < 100 && b != 0; step++) {
            long rest = a % b;
            a = b;
            b = rest;
        }
        return a;
    }

    /** Promise 30. */
    public long worth(long per) {
        grains.find(now.lattice);
        long border = now.lattice.border();
        long count = grains.total;
        if (goesBeyond(per, per) || goesBeyond(per * per, border) || goesBeyond(per, count)) {
            return NO;
        }
        long first = per * per * border;
        long second = per * count;
        long sum = first + second;
        boolean isBeyond = ((first ^ sum) & (second ^ sum)) < 0;
        return isBeyond ? NO : sum;
    }

    private static boolean goesBeyond(long one, long other) {
        if (other == 0) {
            return false;
        }
        // Dividing back shows each wrap but that of the least long by -1.
        return one * other / other != one || (one == Long.MIN_VALUE && other == -1);
    }

    // ---- events, books

    /** Promise 31. */
    public int event(int what, int n) {
        if (what == -1) {
            now.events.count = 0;
            return 0;
        }
        if (what < 0 || what > 4) {
            return NONE;
        }
        if (what == 2 && !now.lattice.hasCell(n)) {
            return NONE;
        }
        if (n < 0 || n > mostOfEvent(what)) {
            return BAD;
        }
        return now.events.append(what, n);
    }

    private static int mostOfEvent(int what) {
        switch (what) {
            case 0:
                return 60;
            case 1:
                return 9;
            default:
                return 99;
        }
    }

    /** Promise 32. */
    public int after(int what) {
        if (what < 0 || what > 2) {
            return NONE;
        }
        trial.takeFrom(now.lattice);
        Rows events = now.events;
        for (int i = 0; i < events.count; i++) {
            trial.undergo(events.firsts[i], events.seconds[i]);
        }
        if (what == 0) {
            return trial.border();
        }
        grains.find(trial);
        return what == 1 ? grains.total : grains.greatestSize();
    }

    /** Promise 33. */
    public int book(int cell, int v) {
        return appendCellAndMark(now.book, cell, v);
    }

    /** Promise 34. */
    public int looked() {
        return now.book.firstUnlike(now.lattice);
    }

    // ---- judging, the image, tapes

    /** Promise 35. */
    public int judge(int tape, int i) {
        Tape row = tapeAt(tape);
        if (row == null) {
            return NONE;
        }
        if (row.sort == Tape.EMPTY) {
            return JUDGED_SHORT;
        }
        if (row.sort != Tape.BYTES) {
            return CAST;
        }
        Lattice lattice = now.lattice;
        for (int cell = 0; cell < lattice.cells(); cell++) {
            // The place is looked at first: cell beyond a place within the row can't wrap.
            if (!row.hasPlace(i) || !row.hasPlace(i + cell)) {
                return JUDGED_SHORT + cell;
            }
            if (row.items[i + cell] != lattice.marks[cell]) {
                return cell;
            }
        }
        return NOWHERE;
    }

    /** Promise 36. */
    public int image() {
        kept.takeFrom(now);
        isKept = true;
        return now.lattice.border();
    }

    /** Promise 37. */
    public int undo() {
        if (!isKept) {
            return STATE;
        }
        now.takeFrom(kept);
        return now.lattice.border();
    }

    /** Promise 38. */
    public int count(int what) {
        switch (what) {
            case 0:
                return now.seen.count;
            case 1:
                return now.events.count;
            case 2:
                return now.book.count;
            case 3:
                return text.length;
            default:
                return BAD;
        }
    }

    /** Promise 39. */
    public int tape(int tape, int sort, int n) {
        Tape row = tapeAt(tape);
        if (row == null) {
            return NONE;
        }
        if (sort == Tape.EMPTY) {
            row.become(Tape.EMPTY, 0);
            return 1;
        }
        if (sort < Tape.BYTES || sort > Tape.BOOLEANS || n > MOST_ITEMS) {
            return BAD;
        }
        if (n < 0) {
            return SIZE;
        }
        row.become(sort, n);
        return 1;
    }

    /** Promise 40. */
    public int item(int tape, int i, long v) {
        Tape row = tapeAt(tape);
        if (row == null) {
            return NONE;
        }
        if (row.sort == Tape.EMPTY) {
            return NOTHING;
        }
        if (!row.hasPlace(i)) {
            return PLACE;
        }
        row.items[i] = row.cut(v);
        return 1;
    }

    /** Promise 41. */
    public long peek(int tape, int i) {
        Tape row = tapeAt(tape);
        if (row == null || !row.hasPlace(i)) {
            return NO;
        }
        return row.items[i];
    }

    /** Promise 42. */
    public int shift(int tape, int i, int other, int j, int n) {
        Tape from = tapeAt(tape);
        Tape to = tapeAt(other);
        if (from == null || to == null) {
            return NONE;
        }
        if (from.sort == Tape.EMPTY || to.sort == Tape.EMPTY) {
            return NOTHING;
        }
        if (from.sort != to.sort) {
            return CAST;
        }
        if (!from.hasPlaces(i, n) || !to.hasPlaces(j, n)) {
            return PLACE;
        }
        System.arraycopy(from.items, i, to.items, j, n);
        return n;
    }

    private Tape tapeAt(int tape) {
        return tape < 0 || tape >= tapes.length ? null : tapes[tape];
    }

    private static boolean isMark(int v) {
        return v >= 0 && v < MARK_COUNT;
    }

    /** All that THE IMAGE keeps. */
    private static final class World {
        final Lattice lattice = new Lattice();
        final Rows seen = new Rows(MOST_SEEN);
        final Rows events = new Rows(MOST_EVENTS);
        final Rows book = new Rows(MOST_BOOK);

        void takeFrom(World other) {
            lattice.takeFrom(other.lattice);
            seen.takeFrom(other.seen);
            events.takeFrom(other.events);
            book.takeFrom(other.book);
        }
    }

    /** Part 1 of the document, but THE TEXT: the cells, what borders cost, and how marks change. */
    private static final class Lattice {
        private static final int FOUR = 0, EIGHT = 1, SIX = 2;
        private static final int WALL = 0, TWISTED = 2;
        private static final int PLAIN = 0, ANGLE = 1, TWIN = 2, MIXED = 3;
        private static final int[] ROW_STEPS = {-1, 0, 1, 0, -1, 1, 1, -1};
        private static final int[] COLUMN_STEPS = {0, 1, 0, -1, 1, 1, -1, -1};
        // Of SIX the last two are up right and down left, which stand apart in the rows above.
        private static final int[] SIX_STEPS = {0, 1, 2, 3, 4, 6};

        final int[] marks = new int[MOST_CELLS];
        final int[] pins = new int[MOST_CELLS];
        // Who is beside whom and what is paid are asked so often that they are worked out once.
        final int[] links = new int[MOST_CELLS * MOST_DIRECTIONS];
        final int[] prices = new int[MARK_COUNT * MARK_COUNT];
        int high = MOST_SIDE;
        int wide = MOST_SIDE;
        int heat;
        int seed = 1;
        int near = FOUR;
        int edges = WALL;
        int kind = PLAIN;
        int number = 1;

        Lattice() {
            linkCells();
            listPrices();
        }

        void takeFrom(Lattice other) {
            high = other.high;
            wide = other.wide;
            heat = other.heat;
            seed = other.seed;
            near = other.near;
            edges = other.edges;
            kind = other.kind;
            number = other.number;
            takeMarks(other);
            System.arraycopy(other.pins, 0, pins, 0, pins.length);
            System.arraycopy(other.links, 0, links, 0, links.length);
            System.arraycopy(other.prices, 0, prices, 0, prices.length);
        }

        void takeMarks(Lattice other) {
            System.arraycopy(other.marks, 0, marks, 0, marks.length);
        }

        int cells() {
            return high * wide;
        }

        boolean hasCell(int cell) {
            return cell >= 0 && cell < cells();
        }

        int directions() {
            return near == FOUR ? 4 : near == EIGHT ? 8 : 6;
        }

        int squares() {
            return (high - 1) * (wide - 1);
        }

        int cornerOf(int square) {
            int across = wide - 1;
            return across < 1 ? 0 : square / across * wide + square % across;
        }

        // ---- what is told by hand

        int resize(int newHigh, int newWide) {
            if (!isSide(newHigh) || !isSide(newWide)) {
                return BAD;
            }
            int was = 10 * high + wide;
            high = newHigh;
            wide = newWide;
            Arrays.fill(marks, 0);
            Arrays.fill(pins, 0);
            linkCells();
            return was;
        }

        private static boolean isSide(int n) {
            return n >= LEAST_SIDE && n <= MOST_SIDE;
        }

        int putMark(int cell, int v) {
            if (!hasCell(cell)) {
                return NONE;
            }
            if (!isMark(v)) {
                return BAD;
            }
            if (pins[cell] != 0) {
                return STATE;
            }
            int was = marks[cell];
            marks[cell] = v;
            return was;
        }

        int putPin(int cell, int is) {
            if (!hasCell(cell)) {
                return NONE;
            }
            if (is < 0 || is > 1) {
                return BAD;
            }
            int was = pins[cell];
            pins[cell] = is;
            return was;
        }

        int turnPin(int cell) {
            return hasCell(cell) ? putPin(cell, 1 - pins[cell]) : NONE;
        }

        int assign(int what, int v) {
            if (what < HEAT || what > EDGES) {
                return NONE;
            }
            if (v < 0 || v > (what == HEAT ? MOST_HEAT : 2)) {
                return BAD;
            }
            if (what == HEAT) {
                int wasHeat = heat;
                heat = v;
                return wasHeat;
            }
            int was = what == NEAR ? near : edges;
            if (what == NEAR) {
                near = v;
            } else {
                edges = v;
            }
            linkCells();
            return was;
        }

        int putPrice(int newKind, int n) {
            if (newKind < PLAIN || newKind > MIXED) {
                return NONE;
            }
            int least = newKind == MIXED ? 0 : 1;
            int most = newKind == ANGLE || newKind == TWIN ? 4 : 9;
            if (n < least || n > most) {
                return BAD;
            }
            int was = priceShown();
            kind = newKind;
            number = n;
            listPrices();
            return was;
        }

        int priceShown() {
            return 10 * kind + number;
        }

        int fillBlock(int first, int second, int v) {
            if (!hasCell(first) || !hasCell(second)) {
                return NONE;
            }
            if (!isMark(v) || second / wide < first / wide || second % wide < first % wide) {
                return BAD;
            }
            for (int cell = first; cell <= second; cell++) {
                boolean isWithin = cell % wide >= first % wide && cell % wide <= second % wide;
                if (isWithin && pins[cell] == 0) {
                    marks[cell] = v;
                }
            }
            return 0;
        }

        // ---- who is beside whom

        private void linkCells() {
            for (int cell = 0; cell < cells(); cell++) {
                for (int direction = 0; direction < directions(); direction++) {
                    int step = near == SIX ? SIX_STEPS[direction] : direction;
                    links[cell * MOST_DIRECTIONS + direction] =
                            stepFrom(cell, ROW_STEPS[step], COLUMN_STEPS[step]);
                }
            }
        }

        private int stepFrom(int cell, int rowStep, int columnStep) {
            int row = cell / wide + rowStep;
            int column = cell % wide + columnStep;
            boolean isBeyondRows = row < 0 || row >= high;
            boolean isBeyondColumns = column < 0 || column >= wide;
            if (edges == WALL && (isBeyondRows || isBeyondColumns)) {
                return NOWHERE;
            }
            if (edges == TWISTED && isBeyondColumns) {
                row += columnStep;
            }
            return Math.floorMod(row, high) * wide + Math.floorMod(column, wide);
        }

        // ---- what borders cost

        private void listPrices() {
            for (int one = 0; one < MARK_COUNT; one++) {
                for (int other = 0; other < MARK_COUNT; other++) {
                    prices[one * MARK_COUNT + other] = priceOf(one, other);
                }
            }
        }

        private int priceOf(int one, int other) {
            int difference = Math.abs(one - other);
            int apart = Math.min(difference, MARK_COUNT - difference);
            switch (kind) {
                case PLAIN:
                    return apart == 0 ? 0 : number;
                case ANGLE:
                    return Math.min(apart, number);
                case TWIN:
                    return apart == 0 || apart == number ? 0 : 2;
                default:
                    return apart == 0 ? 0 : apart % 2 == 0 ? 1 : number;
            }
        }

        int energyWith(int cell, int v) {
            int sum = 0;
            int from = cell * MOST_DIRECTIONS;
            int end = from + directions();
            for (int i = from; i < end; i++) {
                int other = links[i];
                if (other >= 0) {
                    sum += prices[v * MARK_COUNT + marks[other]];
                }
            }
            return sum;
        }

        int energyOf(int cell) {
            return energyWith(cell, marks[cell]);
        }

        int moreWith(int cell, int v) {
            // One walk for both energies: nothing else is asked as often, above all by FITS.
            int sum = 0;
            int will = v * MARK_COUNT;
            int is = marks[cell] * MARK_COUNT;
            int from = cell * MOST_DIRECTIONS;
            int end = from + directions();
            for (int i = from; i < end; i++) {
                int other = links[i];
                if (other >= 0) {
                    sum += prices[will + marks[other]] - prices[is + marks[other]];
                }
            }
            return sum;
        }

        int border() {
            int sum = 0;
            for (int cell = 0; cell < cells(); cell++) {
                sum += energyOf(cell);
            }
            return sum / 2;
        }

        int pinCount() {
            int found = 0;
            for (int cell = 0; cell < cells(); cell++) {
                found += pins[cell];
            }
            return found;
        }

        int cellsWith(int v) {
            int found = 0;
            for (int cell = 0; cell < cells(); cell++) {
                if (marks[cell] == v) {
                    found++;
                }
            }
            return found;
        }

        // ---- changes by heat

        private int draw(int below) {
            seed = seed * 1103515245 + 12345;
            return below < 1 ? 0 : (seed & 0x7fffffff) / 65536 % below;
        }

        /** In hundredths; CERTAIN alone means that no DRAW is needed, as HEAT is less. */
        private int chanceOf(int cell, int v) {
            if (pins[cell] != 0 || marks[cell] == v) {
                return 0;
            }
            int more = moreWith(cell, v);
            return more <= 0 ? CERTAIN : heat / more;
        }

        int attempt(int cell, int v) {
            int chance = chanceOf(cell, v);
            if (chance == 0 || (chance < CERTAIN && draw(CERTAIN) >= chance)) {
                return 0;
            }
            marks[cell] = v;
            return 1;
        }

        int runTries(int n) {
            int went = 0;
            for (int i = 0; i < n; i++) {
                int cell = draw(cells());
                int other = links[cell * MOST_DIRECTIONS + draw(directions())];
                if (other >= 0) {
                    went += attempt(cell, marks[other]);
                }
            }
            return went;
        }

        long hundredthsOfAllTries() {
            long sum = 0;
            for (int cell = 0; cell < cells(); cell++) {
                for (int direction = 0; direction < directions(); direction++) {
                    int other = links[cell * MOST_DIRECTIONS + direction];
                    if (other >= 0) {
                        sum += chanceOf(cell, marks[other]);
                    }
                }
            }
            return sum;
        }

        // ---- rounds of cooling

        private int coolestMark(int cell) {
            int choice = marks[cell];
            int least = energyOf(cell);
            int around = marksAround(cell);
            for (int v = 0; v < MARK_COUNT; v++) {
                if ((around >> v & 1) != 0) {
                    int energy = energyWith(cell, v);
                    if (energy < least) {
                        least = energy;
                        choice = v;
                    }
                }
            }
            return choice;
        }

        private int marksAround(int cell) {
            int around = 0;
            for (int direction = 0; direction < directions(); direction++) {
                int other = links[cell * MOST_DIRECTIONS + direction];
                if (other >= 0) {
                    around |= 1 << marks[other];
                }
            }
            return around;
        }

        int coolRound() {
            int changed = 0;
            for (int cell = 0; cell < cells(); cell++) {
                int v = pins[cell] != 0 ? marks[cell] : coolestMark(cell);
                if (v != marks[cell]) {
                    marks[cell] = v;
                    changed++;
                }
            }
            return changed;
        }

        int runRounds(int n) {
            int changed = 0;
            for (int round = 0; round < n; round++) {
                int more = coolRound();
                if (more == 0) {
                    break;
                }
                changed += more;
            }
            return changed;
        }

        int roundsUntilStill() {
            for (int round = 0; round < MOST_ROUNDS; round++) {
                if (coolRound() == 0) {
                    return round;
                }
            }
            return NOWHERE;
        }

        // ---- events

        void undergo(int what, int n) {
            switch (what) {
                case 0:
                    runTries(n);
                    break;
                case 1:
                    runRounds(n);
                    break;
                case 2:
                    turnPin(n);
                    break;
                case 3:
                    heat = n;
                    break;
                default:
                    seed = n;
                    break;
            }
        }
    }

    /** The GRAINS of the lattice that was looked at last. */
    private static final class Grains {
        final int[] grainOf = new int[MOST_CELLS];
        final int[] leastCells = new int[MOST_CELLS];
        final int[] sizes = new int[MOST_CELLS];
        // A bit for each other GRAIN beside: 36 of them fit a long.
        private final long[] touched = new long[MOST_CELLS];
        private final int[] queue = new int[MOST_CELLS];
        int total;

        void find(Lattice lattice) {
            total = 0;
            Arrays.fill(grainOf, NOWHERE);
            for (int cell = 0; cell < lattice.cells(); cell++) {
                if (grainOf[cell] < 0) {
                    spread(lattice, cell);
                }
            }
            touch(lattice);
        }

        private void spread(Lattice lattice, int first) {
            queue[0] = first;
            grainOf[first] = total;
            int reached = 1;
            for (int next = 0; next < reached && next < queue.length; next++) {
                int from = queue[next] * MOST_DIRECTIONS;
                for (int i = from; i < from + lattice.directions(); i++) {
                    int other = lattice.links[i];
                    if (other >= 0 && grainOf[other] < 0 && reached < queue.length
                            && lattice.marks[other] == lattice.marks[first]) {
                        grainOf[other] = total;
                        queue[reached] = other;
                        reached++;
                    }
                }
            }
            leastCells[total] = first;
            sizes[total] = reached;
            total++;
        }

        private void touch(Lattice lattice) {
            Arrays.fill(touched, 0L);
            for (int cell = 0; cell < lattice.cells(); cell++) {
                int from = cell * MOST_DIRECTIONS;
                for (int i = from; i < from + lattice.directions(); i++) {
                    int other = lattice.links[i];
                    if (other >= 0 && grainOf[other] != grainOf[cell]) {
                        touched[grainOf[cell]] |= 1L << grainOf[other];
                    }
                }
            }
        }

        int neighbours(int grain) {
            return Long.bitCount(touched[grain]);
        }

        int islands() {
            int found = 0;
            for (int grain = 0; grain < total; grain++) {
                if (neighbours(grain) == 1) {
                    found++;
                }
            }
            return found;
        }

        int firstGreatest() {
            int first = 0;
            for (int grain = 1; grain < total; grain++) {
                if (sizes[grain] > sizes[first]) {
                    first = grain;
                }
            }
            return first;
        }

        int greatestSize() {
            return sizes[firstGreatest()];
        }

        int countFrom(int size) {
            int found = 0;
            for (int grain = 0; grain < total; grain++) {
                if (sizes[grain] >= size) {
                    found++;
                }
            }
            return found;
        }

        int rim(Lattice lattice, int grain) {
            int sum = 0;
            for (int cell = 0; cell < lattice.cells(); cell++) {
                if (grainOf[cell] == grain) {
                    sum += lattice.energyOf(cell);
                }
            }
            return sum;
        }

        int pinned(Lattice lattice, int grain) {
            int found = 0;
            for (int cell = 0; cell < lattice.cells(); cell++) {
                if (grainOf[cell] == grain) {
                    found += lattice.pins[cell];
                }
            }
            return found;
        }

        boolean anyHas(Lattice later, int grain, int v) {
            for (int cell = 0; cell < later.cells(); cell++) {
                if (grainOf[cell] == grain && later.marks[cell] == v) {
                    return true;
                }
            }
            return false;
        }

        int metAt(Lattice lattice, int square) {
            int corner = lattice.cornerOf(square);
            int below = corner + lattice.wide;
            long met = 1L << grainOf[corner] | 1L << grainOf[corner + 1]
                    | 1L << grainOf[below] | 1L << grainOf[below + 1];
            return Long.bitCount(met);
        }

        int wallsBetween(int one, int other) {
            long reached = 1L << one;
            for (int walls = 0; walls < total; walls++) {
                if ((reached >> other & 1L) != 0) {
                    return walls;
                }
                reached = widened(reached);
            }
            return NOWHERE;
        }

        private long widened(long reached) {
            long wider = reached;
            for (int grain = 0; grain < total; grain++) {
                if ((reached >> grain & 1L) != 0) {
                    wider |= touched[grain];
                }
            }
            return wider;
        }
    }

    /** Rows of two numbers that are told by hand: SEEN, EVENTS, the BOOK. */
    private static final class Rows {
        final int[] firsts;
        final int[] seconds;
        int count;

        Rows(int most) {
            int length = Math.max(most, 0);
            firsts = new int[length];
            seconds = new int[length];
        }

        int append(int first, int second) {
            if (count >= firsts.length) {
                return FULL;
            }
            firsts[count] = first;
            seconds[count] = second;
            count++;
            return count;
        }

        int firstUnlike(Lattice lattice) {
            for (int i = 0; i < count; i++) {
                if (!lattice.hasCell(firsts[i]) || lattice.marks[firsts[i]] != seconds[i]) {
                    return i;
                }
            }
            return NOWHERE;
        }

        void takeFrom(Rows other) {
            count = Math.min(other.count, firsts.length);
            System.arraycopy(other.firsts, 0, firsts, 0, count);
            System.arraycopy(other.seconds, 0, seconds, 0, count);
        }
    }

    /** THE TEXT, and the set-up that is read from it. */
    private static final class SetUp {
        private static final int MOST_SIGNS = 100, LAST_SIGN = 127, MOST_CLAUSES = 12;

        private final int[] signs = new int[MOST_SIGNS];
        int length;

        int append(int sign) {
            if (sign < 0 || sign > LAST_SIGN) {
                return BAD;
            }
            if (length >= signs.length) {
                return FULL;
            }
            signs[length] = sign;
            length++;
            return length;
        }

        private static int digitsBehind(int letter) {
            switch (letter) {
                case 'n':
                case 'e':
                    return 1;
                case 's':
                case 'p':
                case 'c':
                case 'h':
                    return 2;
                case 'm':
                    return 3;
                case 'f':
                    return 5;
                default:
                    return NOWHERE;
            }
        }

        /** The place of the FAULT, or NOWHERE. */
        int findFault() {
            int clauses = 0;
            int digitsDue = NOWHERE;
            for (int place = 0; place < length; place++) {
                int sign = signs[place];
                if (digitsDue < 0) {
                    digitsDue = digitsBehind(sign);
                    clauses++;
                    if (digitsDue < 0) {
                        return place;
                    }
                } else if (digitsDue > 0) {
                    digitsDue--;
                    if (sign < '0' || sign > '9') {
                        return place;
                    }
                } else {
                    digitsDue = NOWHERE;
                    if (sign != ';' || clauses == MOST_CLAUSES) {
                        return place;
                    }
                }
            }
            return digitsDue == 0 ? NOWHERE : length;
        }

        /** How many CLAUSES were done; only for a text without FAULT. */
        int carryOut(Lattice lattice) {
            int done = 0;
            int place = 0;
            for (int clause = 0; clause < MOST_CLAUSES && place < length; clause++) {
                int letter = signs[place];
                if (isDone(lattice, letter, place + 1)) {
                    done++;
                }
                place += 2 + Math.max(digitsBehind(letter), 0);
            }
            return done;
        }

        private boolean isDone(Lattice lattice, int letter, int at) {
            switch (letter) {
                case 's':
                    return lattice.resize(digit(at), digit(at + 1)) >= 0;
                case 'm':
                    return lattice.putMark(twoDigits(at), digit(at + 2)) >= 0;
                case 'f':
                    return lattice.fillBlock(twoDigits(at), twoDigits(at + 2), digit(at + 4)) >= 0;
                case 'p':
                    return lattice.turnPin(twoDigits(at)) >= 0;
                case 'n':
                    return lattice.assign(NEAR, digit(at)) >= 0;
                case 'e':
                    return lattice.assign(EDGES, digit(at)) >= 0;
                case 'c':
                    return lattice.putPrice(digit(at), digit(at + 1)) >= 0;
                case 'h':
                    return lattice.assign(HEAT, twoDigits(at)) >= 0;
                default:
                    return false;
            }
        }

        private int digit(int place) {
            return place < 0 || place >= length ? 0 : signs[place] - '0';
        }

        private int twoDigits(int place) {
            return 10 * digit(place) + digit(place + 1);
        }
    }

    /** A row of one sort of items, all held as longs, so that it is made but once. */
    private static final class Tape {
        static final int EMPTY = -1, BYTES = 0, SHORTS = 1, INTS = 2, LONGS = 3, BOOLEANS = 4;

        final long[] items = new long[MOST_ITEMS];
        int sort = EMPTY;
        int length;

        void become(int newSort, int newLength) {
            Arrays.fill(items, 0L);
            sort = newSort;
            length = newLength;
        }

        boolean hasPlace(int i) {
            return i >= 0 && i < length;
        }

        boolean hasPlaces(int from, int n) {
            return n >= 0 && from >= 0 && n <= length && from <= length - n;
        }

        long cut(long v) {
            switch (sort) {
                case BYTES:
                    return (byte) v;
                case SHORTS:
                    return (short) v;
                case INTS:
                    return (int) v;
                case BOOLEANS:
                    return v != 0 ? 1 : 0;
                default:
                    return v;
            }
        }
    }
}
