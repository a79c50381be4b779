/** Judging, THE IMAGE and tapes: promises 35 to 42, and what parts 2 and 3 of the document say of them. */
final class TapeBounds {
    private static final int NONE = Due.NONE, BAD = Due.BAD, STATE = Due.STATE, NOWHERE = Due.NOWHERE;
    private static final int NOTHING = Due.NOTHING, CAST = Due.CAST, PLACE = Due.PLACE, SIZE = Due.SIZE;
    private static final long NO = Due.NO;
    private static final int MAX = Due.MAX, MIN = Due.MIN;
    private static final int TERMS = Due.TERMS;
    private static final int BYTES = 0, SHORTS = 1, INTS = 2, LONGS = 3, BOOLEANS = 4;

    private final Due due;

    TapeBounds(Due due) {
        this.due = due;
    }

    void run() {
        atFirst();
        hostRefusals();
        judged();
        judge();
        image();
        undo();
        count();
        tape();
        item();
        itemBits();
        peek();
        shift();
        shiftPlaces();
    }

    private void atFirst() {
        due.by(TERMS, "==== 3 TAPES 0 .. 5 hold nothing (at first), or a row of 0 bytes, 1 shorts, 2 ints, 3"
                + " longs, 4 booleans (items 0, 1).");
        GrainGrower x = new GrainGrower();
        for (int tape = 0; tape < 6; tape++) {
            due.is("nothing at first", x.item(tape, 0, 1), NOTHING);
            for (int sort = 0; sort < 5; sort++) {
                due.is("sort " + sort, x.tape(tape, sort, 1), 1);
                x.item(tape, 0, 0x1111111181818181L);
                long[] want = {(byte) 0x81, (short) 0x8181, 0x81818181, 0x1111111181818181L, 1};
                due.is("an item of sort " + sort, x.peek(tape, 0), want[sort]);
            }
        }
        due.is("no tape -1", x.tape(-1, 0, 1), NONE);
        due.is("no tape 6", x.tape(6, 0, 1), NONE);
        due.is("no sort 5", x.tape(0, 5, 1), BAD);
    }

    private void hostRefusals() {
        due.by(TERMS, "The host's refusals: NOTHING (-11): nothing is there; CAST (-12): another sort; PLACE"
                + " (-13): no such place; SIZE (-14): a size below 0.");
        GrainGrower x = new GrainGrower();
        x.tape(0, INTS, 1);
        x.tape(1, LONGS, 1);
        due.is("nothing is there", x.item(2, 0, 0), -11);
        due.is("another sort", x.shift(0, 0, 1, 0, 1), -12);
        due.is("no such place", x.item(0, 1, 0), -13);
        due.is("a size below 0", x.tape(0, INTS, -1), -14);
    }

    /** A tape of bytes with as many as there are cells, and so many ahead of them and behind. */
    private static void tellMarks(GrainGrower x, int tape, int ahead, int behind) {
        int cells = Lattices.cells(x);
        x.tape(tape, BYTES, ahead + cells + behind);
        for (int i = 0; i < ahead; i++) {
            x.item(tape, i, 99);
        }
        for (int cell = 0; cell < cells; cell++) {
            x.item(tape, ahead + cell, x.of(cell, 0));
        }
        for (int i = 0; i < behind; i++) {
            x.item(tape, ahead + cells + i, 99);
        }
    }

    private void judged() {
        due.by(TERMS, "MARKS of CELLS 0, 1, .. told by a row of bytes, from a place on, are JUDGED: the first"
                + " that is otherwise (the CELL, counted from 0 from that place on); -5: none;");
        GrainGrower x = Lattices.of(2, 3, "701 234");
        tellMarks(x, 0, 0, 0);
        due.is("none, the row as long as the lattice", x.judge(0, 0), NOWHERE);
        for (int cell = 5; cell >= 0; cell--) {
            x.item(0, cell, 7 - x.of(cell, 0));
            due.is("cell " + cell, x.judge(0, 0), cell);
        }
        tellMarks(x, 0, 3, 2);
        due.is("none, from place 3 on", x.judge(0, 3), NOWHERE);
        due.is("99 is no MARK of cell 0", x.judge(0, 2), 0);
        x.item(0, 8, 99);
        due.is("the last cell", x.judge(0, 3), 5);
        x.item(0, 8, 4);
        x.item(0, 9, 5);
        due.is("what stands behind the last is not looked at", x.judge(0, 3), NOWHERE);
        x.item(0, 3, 7 - 256);
        due.is("an item has eight bits", x.judge(0, 3), NOWHERE);
        x.item(0, 3, -1);
        due.is("an item below 0", x.judge(0, 3), 0);
        x = new GrainGrower();
        tellMarks(x, 5, 24, 0);
        due.is("36 at the end of a row of 60", x.judge(5, 24), NOWHERE);
        x.mark(35, 1);
        due.is("the last of 36", x.judge(5, 24), 35);
        due.by(TERMS, "100 and how many were looked at, if the row ends ahead of that (or the place is below 0,"
                + " or the TAPE holds nothing).");
        x = Lattices.of(2, 3, "701 234");
        for (int length = 0; length < 6; length++) {
            tellMarks(x, 0, 0, 0);
            x.tape(1, BYTES, length);
            x.shift(0, 0, 1, 0, length);
            due.is("a row of " + length, x.judge(1, 0), 100 + length);
        }
        x.item(1, 4, 0);
        due.is("otherwise in the last of five", x.judge(1, 0), 4);
        tellMarks(x, 0, 0, 0);
        for (int place : new int[] {6, 7, 60, 61, MAX, MAX - 1, MAX - 5}) {
            due.is("from " + place + " on", x.judge(0, place), 100);
        }
        for (int place : new int[] {-1, -6, -60, MIN, MIN + 1}) {
            due.is("from " + place + " on", x.judge(0, place), 100);
        }
        x.tape(2, BYTES, 0);
        due.is("a row of none, place 0", x.judge(2, 0), 100);
        due.is("a row of none, place -1", x.judge(2, -1), 100);
        for (int place : new int[] {0, -1, 60, MAX, MIN}) {
            due.is("nothing, place " + place, x.judge(3, place), 100);
        }
        x.size(6, 6);
        x.tape(4, BYTES, 35);
        due.is("35 of 36", x.judge(4, 0), 135);
    }

    private void judge() {
        due.by(35, "JUDGED from place i of a TAPE on.");
        GrainGrower x = Lattices.of(2, 2, "12 34");
        for (int tape = 0; tape < 6; tape++) {
            tellMarks(x, tape, 1, 0);
            due.is("tape " + tape, x.judge(tape, 1), NOWHERE);
            due.is("tape " + tape, x.judge(tape, 0), 0);
        }
        due.by(35, "NONE: tape; CAST: it is no row of bytes.");
        for (int tape : new int[] {-1, 6, MAX, MIN}) {
            due.is("tape " + tape, x.judge(tape, 1), NONE);
        }
        for (int sort = SHORTS; sort <= BOOLEANS; sort++) {
            for (int length : new int[] {0, 1, 60}) {
                x.tape(0, sort, length);
                due.is("sort " + sort + " of " + length, x.judge(0, 0), CAST);
                due.is("sort " + sort + ", place below 0", x.judge(0, -1), CAST);
                due.is("sort " + sort + ", place beyond", x.judge(0, 60), CAST);
            }
        }
        x.tape(0, -1, 0);
        due.is("nothing is no other sort", x.judge(0, 0), 100);
    }

    /** Something in each part of THE IMAGE. */
    private static GrainGrower filled() {
        GrainGrower x = Lattices.of(3, 4, "0123 4567 0123");
        x.pin(5, 1);
        x.set(0, 21);
        x.set(1, 1);
        x.set(2, 2);
        x.price(1, 3);
        x.seed(-99);
        x.see(5, 5);
        x.event(2, 5);
        x.event(1, 2);
        x.book(5, 5);
        x.book(6, 6);
        x.book(7, 0);
        return x;
    }

    private void dueFilled(GrainGrower x) {
        due.marks("MARKS", x, "0123 4567 0123");
        due.pins("PINS", x, "0000 0100 0000");
        int[] told = {3, 4, 21, 1, 2, 13};
        for (int k = 0; k < told.length; k++) {
            due.is("told(" + (6 + k) + ")", x.told(6 + k), told[k]);
        }
        due.is("who is beside whom", x.beside(0, 7), 7);
        due.is("what is paid", x.costs(0, 4), 3);
        due.is("SEEN", x.count(0), 1);
        due.is("its row", x.fits(0, 0), 100);
        due.is("EVENTS", x.count(1), 2);
        due.is("its rows", x.after(0), filled().after(0));
        due.is("the BOOK", x.count(2), 3);
        due.is("its rows", x.looked(), 2);
        due.is("SEED", x.seed(-99), -99);
    }

    private static void spoil(GrainGrower x) {
        x.size(6, 6);
        x.mark(5, 1);
        x.pin(0, 1);
        x.set(0, 99);
        x.set(1, 2);
        x.set(2, 1);
        x.price(3, 7);
        x.seed(MAX);
        x.see(-1, 0);
        x.see(0, 6);
        x.see(0, 7);
        x.event(-1, 0);
        x.event(4, 4);
        x.book(-1, 0);
        x.book(0, 6);
    }

    private void image() {
        due.by(TERMS, "THE IMAGE: all that there is of 1 (but THE TEXT), SEEN, EVENTS, the BOOK.");
        GrainGrower x = filled();
        Lattices.type(x, "n0;");
        x.tape(0, BYTES, 3);
        x.image();
        spoil(x);
        Lattices.type(x, "e0");
        x.tape(0, LONGS, 5);
        x.item(0, 4, 7);
        x.undo();
        dueFilled(x);
        due.is("but THE TEXT", x.count(3), 5);
        due.is("nor tapes", x.peek(0, 4), 7);
        due.is("THE TEXT as it is now", x.read(), 2);
        x = new GrainGrower();
        x.image();
        spoil(x);
        x.undo();
        due.is("an image of a new object: EVENTS", x.count(1), 0);
        due.is("SEEN", x.count(0), 0);
        due.is("the BOOK", x.count(2), 0);
        due.is("SEED", x.seed(1), 1);
        due.is("HEAT", x.told(8), 0);
        due.marks("MARKS", x, "000000".repeat(6));
        x = fullRows();
        x.image();
        spoil(x);
        x.undo();
        due.is("as many as there may be: SEEN", x.see(0, 0), Due.FULL);
        due.is("EVENTS", x.event(0, 0), Due.FULL);
        due.is("the BOOK", x.book(0, 0), Due.FULL);
        due.is("the last row of the BOOK", x.looked(), 7);
        due.is("the last row of SEEN", x.fits(0, 0), 0);
        due.by(36, "THE IMAGE is taken: BORDER.");
        x = Lattices.of(2, 3, "221 000");
        due.is("BORDER", x.image(), 4);
        x.cool(1);
        due.is("BORDER, taken anew", x.image(), 3);
        x.cool(30);
        due.is("none", x.image(), 0);
        x.mark(0, 1);
        due.is("the last one counts", x.undo(), 0);
        due.marks("the last one counts", x, "000 000");
    }

    private static GrainGrower fullRows() {
        GrainGrower x = new GrainGrower();
        for (int i = 0; i < 8; i++) {
            x.event(4, i);
            x.book(i, i == 7 ? 1 : 0);
            x.see(i, i == 5 ? 1 : 0);
        }
        return x;
    }

    private void undo() {
        due.by(37, "All is as THE IMAGE: BORDER.");
        GrainGrower x = filled();
        int border = x.image();
        for (int again = 0; again < 3; again++) {
            spoil(x);
            due.is("BORDER", x.undo(), border);
            dueFilled(x);
            due.is("undo of what is so already", x.undo(), border);
            dueFilled(x);
        }
        x.mark(0, 7);
        x.book(0, 0);
        x.undo();
        dueFilled(x);
        due.by(37, "STATE: there is none.");
        x = filled();
        due.is("none", x.undo(), STATE);
        dueFilled(x);
        due.is("none still", x.undo(), STATE);
        x.image();
        due.is("there is one", x.undo(), border);
    }

    private void count() {
        due.by(38, "How many: 0 SEEN, 1 EVENTS, 2 of the BOOK, 3 bytes of THE TEXT.");
        GrainGrower x = new GrainGrower();
        for (int what = 0; what < 4; what++) {
            due.is("none at first", x.count(what), 0);
        }
        int[] most = {6, 8, 8, 100};
        for (int i = 1; i <= 101; i++) {
            x.see(0, 0);
            x.event(0, 0);
            x.book(0, 0);
            x.feed(';');
            for (int what = 0; what < 4; what++) {
                due.is("what " + what + " of " + i, x.count(what), Math.min(i, most[what]));
            }
        }
        due.by(38, "BAD.");
        for (int what : new int[] {-1, 4, MAX, MIN}) {
            due.is("what " + what, x.count(what), BAD);
        }
    }

    private void tape() {
        due.by(39, "A TAPE becomes a row of n (0 .. 60) of a sort, all 0, or holds nothing (sort -1: n does not"
                + " matter): 1.");
        GrainGrower x = new GrainGrower();
        for (int tape = 0; tape < 6; tape++) {
            for (int sort = BYTES; sort <= BOOLEANS; sort++) {
                due.is("60", x.tape(tape, sort, 60), 1);
                for (int i = 0; i < 60; i++) {
                    due.is("all 0", x.peek(tape, i), 0);
                    x.item(tape, i, -1);
                }
                due.is("no more than 60", x.peek(tape, 60), NO);
                due.is("0", x.tape(tape, sort, 0), 1);
                due.is("no place", x.item(tape, 0, 1), PLACE);
                due.is("1", x.tape(tape, sort, 1), 1);
                due.is("all 0, anew", x.peek(tape, 0), 0);
                due.is("just one", x.peek(tape, 1), NO);
                x.item(tape, 0, -1);
            }
            for (int n : new int[] {0, 60, 61, -1, MAX, MIN}) {
                x.tape(tape, BYTES, 3);
                due.is("nothing, n " + n, x.tape(tape, -1, n), 1);
                due.is("nothing is there", x.item(tape, 0, 1), NOTHING);
                due.is("nothing of nothing, n " + n, x.tape(tape, -1, n), 1);
            }
        }
        x.tape(0, LONGS, 2);
        x.item(0, 1, 5);
        x.tape(1, LONGS, 2);
        due.is("another tape stays", x.peek(0, 1), 5);
        due.by(39, "NONE: tape; BAD: sort, n above 60; SIZE.");
        for (int tape : new int[] {-1, 6, MAX, MIN}) {
            due.is("tape " + tape, x.tape(tape, BYTES, 1), NONE);
            due.is("tape " + tape + ", nothing", x.tape(tape, -1, 1), NONE);
        }
        for (int sort : new int[] {-2, 5, MAX, MIN}) {
            due.is("sort " + sort, x.tape(0, sort, 1), BAD);
        }
        for (int sort = BYTES; sort <= BOOLEANS; sort++) {
            due.is("n 61", x.tape(0, sort, 61), BAD);
            due.is("n MAX", x.tape(0, sort, MAX), BAD);
            due.is("n -1", x.tape(0, sort, -1), SIZE);
            due.is("n MIN", x.tape(0, sort, MIN), SIZE);
        }
        due.is("it is as it was", x.peek(0, 1), 5);
        due.is("to its end", x.peek(0, 2), NO);
    }

    private void item() {
        due.by(40, "NONE; NOTHING; PLACE.");
        GrainGrower x = new GrainGrower();
        x.tape(0, INTS, 3);
        x.tape(5, INTS, 60);
        x.tape(1, INTS, 0);
        for (int tape : new int[] {-1, 6, MAX, MIN}) {
            due.is("tape " + tape, x.item(tape, 0, 1), NONE);
        }
        due.is("nothing", x.item(2, 0, 1), NOTHING);
        due.is("the first place", x.item(0, 0, 1), 1);
        due.is("the last place", x.item(0, 2, 1), 1);
        due.is("the last of 60", x.item(5, 59, 1), 1);
        for (int i : new int[] {-1, 3, 59, 60, MAX, MIN}) {
            due.is("place " + i + " of 3", x.item(0, i, 1), PLACE);
        }
        for (int i : new int[] {-1, 60, MAX, MIN}) {
            due.is("place " + i + " of 60", x.item(5, i, 1), PLACE);
        }
        for (int i : new int[] {-1, 0, 1}) {
            due.is("place " + i + " of none", x.item(1, i, 1), PLACE);
        }
        due.is("it is as it was", x.peek(0, 1), 0);
    }

    private void itemBits() {
        due.by(40, "Item i of a TAPE becomes v (its lowest bits, as many as an item has; booleans: whether v is"
                + " not 0): 1.");
        long[] values = {0, 1, -1, 127, 128, -128, -129, 255, 256, 32767, 32768, -32768, -32769, 65535, 65536, MAX,
            MAX + 1L, MIN, MIN - 1L, 0xffffffffL, 1L << 32, Long.MAX_VALUE, Long.MIN_VALUE, 0x0123456789abcdefL};
        int[] bits = {8, 16, 32, 64};
        GrainGrower x = new GrainGrower();
        for (int sort = BYTES; sort <= BOOLEANS; sort++) {
            x.tape(sort, sort, 60);
            for (long v : values) {
                int free = sort == BOOLEANS ? 0 : 64 - bits[sort];
                long want = sort == BOOLEANS ? Math.min(Long.bitCount(v), 1) : v << free >> free;
                due.is("sort " + sort, x.item(sort, 0, v), 1);
                due.is("sort " + sort, x.item(sort, 59, v), 1);
                due.is(v + " of sort " + sort + ", the first", x.peek(sort, 0), want);
                due.is(v + " of sort " + sort + ", the last", x.peek(sort, 59), want);
            }
            due.is("those beside stay", x.peek(sort, 1), 0);
            due.is("those beside stay", x.peek(sort, 58), 0);
        }
    }

    private void peek() {
        due.by(41, "Item i of a TAPE.");
        GrainGrower x = new GrainGrower();
        x.tape(0, LONGS, 60);
        x.item(0, 0, 5);
        x.item(0, 59, -6);
        x.tape(5, LONGS, 1);
        x.item(5, 0, NO);
        due.is("the first", x.peek(0, 0), 5);
        due.is("the last", x.peek(0, 59), -6);
        due.is("another tape", x.peek(5, 0), NO);
        due.by(41, "NO: no such TAPE, nothing there, no such place.");
        for (int tape : new int[] {-1, 6, MAX, MIN}) {
            due.is("tape " + tape, x.peek(tape, 0), NO);
        }
        for (int i : new int[] {-1, 60, MAX, MIN}) {
            due.is("place " + i, x.peek(0, i), NO);
        }
        for (int i : new int[] {-1, 0, 60}) {
            due.is("nothing, place " + i, x.peek(1, i), NO);
        }
        x.tape(0, LONGS, 0);
        due.is("a row of none", x.peek(0, 0), NO);
        x.tape(0, LONGS, 60);
        x.item(0, 0, 5);
        x.tape(0, -1, 60);
        due.is("nothing any more", x.peek(0, 0), NO);
    }

    /** Tapes 0 (1 2 3 4 5) and 1 (6 7 8), both of one sort. */
    private static GrainGrower twoTapes(int sort) {
        GrainGrower x = new GrainGrower();
        x.tape(0, sort, 5);
        x.tape(1, sort, 3);
        for (int i = 0; i < 8; i++) {
            x.item(i / 5, i % 5, i + 1);
        }
        return x;
    }

    private void dueTape(String what, GrainGrower x, int tape, String want) {
        StringBuilder b = new StringBuilder();
        for (int i = 0; i < 61 && x.peek(tape, i) != NO; i++) {
            b.append(x.peek(tape, i));
        }
        due.same(what, b.toString(), want);
    }

    private void shift() {
        due.by(42, "n items of a TAPE from i on come to another one (or the same) from j on, as they all were"
                + " before: n.");
        for (int sort = BYTES; sort <= LONGS; sort++) {
            dueShift(sort, "all that fit", 0, 0, 1, 0, 3, "12345", "123");
            dueShift(sort, "the last ones", 0, 2, 1, 0, 3, "12345", "345");
            dueShift(sort, "from the other, to the end", 1, 0, 0, 2, 3, "12678", "678");
            dueShift(sort, "one, to the end", 0, 0, 1, 2, 1, "12345", "671");
            dueShift(sort, "none", 0, 0, 1, 0, 0, "12345", "678");
            dueShift(sort, "none, at both ends", 0, 5, 1, 3, 0, "12345", "678");
            dueShift(sort, "the same, one on", 0, 0, 0, 1, 4, "11234", "678");
            dueShift(sort, "the same, one back", 0, 1, 0, 0, 4, "23455", "678");
            dueShift(sort, "the same, two on", 0, 0, 0, 2, 3, "12123", "678");
            dueShift(sort, "the same, two back", 0, 2, 0, 0, 3, "34545", "678");
            dueShift(sort, "the same, all", 0, 0, 0, 0, 5, "12345", "678");
        }
        GrainGrower x = new GrainGrower();
        x.tape(0, BOOLEANS, 2);
        x.tape(5, BOOLEANS, 2);
        x.item(0, 1, 9);
        due.is("booleans", x.shift(0, 0, 5, 0, 2), 2);
        dueTape("booleans", x, 5, "01");
        x.tape(2, LONGS, 60);
        x.tape(3, LONGS, 60);
        x.item(2, 0, 1);
        x.item(2, 59, 2);
        due.is("60", x.shift(2, 0, 3, 0, 60), 60);
        due.is("the first of 60", x.peek(3, 0), 1);
        due.is("the last of 60", x.peek(3, 59), 2);
    }

    private void dueShift(int sort, String what, int tape, int i, int other, int j, int n, String... want) {
        GrainGrower x = twoTapes(sort);
        due.is(what, x.shift(tape, i, other, j, n), n);
        dueTape(what + ", tape 0", x, 0, want[0]);
        dueTape(what + ", tape 1", x, 1, want[1]);
    }

    private void shiftPlaces() {
        due.by(42, "NONE: tapes; NOTHING; CAST: of unlike sorts; PLACE: n, i or j is below 0, or beyond"
                + " either's end.");
        GrainGrower x = twoTapes(INTS);
        for (int tape : new int[] {-1, 6, MAX, MIN}) {
            due.is("tape " + tape, x.shift(tape, 0, 1, 0, 1), NONE);
            due.is("other " + tape, x.shift(0, 0, tape, 0, 1), NONE);
        }
        due.is("nothing from", x.shift(2, 0, 1, 0, 0), NOTHING);
        due.is("nothing to", x.shift(0, 0, 2, 0, 0), NOTHING);
        due.is("nothing to itself", x.shift(2, 0, 2, 0, 0), NOTHING);
        for (int sort = BYTES; sort <= BOOLEANS; sort++) {
            x.tape(3, sort, 3);
            due.is("ints to sort " + sort, x.shift(0, 0, 3, 0, 0), sort == INTS ? 0 : CAST);
            due.is("sort " + sort + " to ints", x.shift(3, 0, 0, 0, 0), sort == INTS ? 0 : CAST);
        }
        int[][] places = {{0, 0, -1}, {-1, 0, 1}, {0, -1, 1}, {-1, 0, 0}, {0, -1, 0}, {-1, -1, 0}, {6, 0, 0},
            {0, 4, 0}, {5, 0, 1}, {0, 3, 1}, {3, 0, 3}, {0, 1, 3}, {0, 0, 4}, {0, 0, 6}, {MAX, 0, 0}, {0, MAX, 0},
            {0, 0, MAX}, {1, 1, MAX}, {MAX, MAX, MAX}, {MIN, 0, 1}, {0, MIN, 1}, {0, 0, MIN}, {MIN, MIN, MIN},
            {1, 1, MIN}, {MAX, 0, 2}, {0, MAX, 2}, {5, 3, MAX}, {-1, 0, 2}, {0, -1, 2}};
        for (int[] p : places) {
            due.is("i " + p[0] + ", j " + p[1] + ", n " + p[2], x.shift(0, p[0], 1, p[1], p[2]), PLACE);
        }
        due.is("beyond its own end", x.shift(0, 0, 0, 1, 5), PLACE);
        due.is("beyond its own end", x.shift(0, 1, 0, 0, 5), PLACE);
        dueTape("nothing came, tape 0", x, 0, "12345");
        dueTape("nothing came, tape 1", x, 1, "678");
        x.tape(4, INTS, 0);
        due.is("a row of none to itself", x.shift(4, 0, 4, 0, 0), 0);
        due.is("a row of none has no place 1", x.shift(4, 1, 0, 0, 0), PLACE);
        due.is("one of a row of none", x.shift(4, 0, 0, 0, 1), PLACE);
    }
}
