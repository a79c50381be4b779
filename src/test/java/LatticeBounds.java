/** Part 1 of the document but THE TEXT, and promises 1 to 10. */
final class LatticeBounds {
    private static final int NONE = Due.NONE, BAD = Due.BAD, STATE = Due.STATE, NOWHERE = Due.NOWHERE;
    private static final int MAX = Due.MAX, MIN = Due.MIN;
    private static final int TERMS = Due.TERMS;
    /** By FOUR all beside a cell have other marks than it, each its own. */
    private static final String SCATTERED = "012345 234567 456701 670123 012345 234567";

    private final Due due;

    LatticeBounds(Due due) {
        this.due = due;
    }

    void run() {
        newObject();
        sides();
        marksAndPins();
        settings();
        directions();
        walls();
        round();
        twisted();
        steps();
        neverItself();
        priceNumbers();
        priceValues();
        energies();
        more();
        changeWithoutDraw();
        changeByDraw();
        draws();
        tries();
        rounds();
        cool();
    }

    private void newObject() {
        GrainGrower x = new GrainGrower();
        due.by(1, "Six rows of six CELLS, all of MARK 0, no PINS.");
        due.is("HIGH", x.told(6), 6);
        due.is("WIDE", x.told(7), 6);
        due.marks("all cells", x, "000000".repeat(6));
        due.pins("all cells", x, "000000".repeat(6));
        due.is("the last cell", x.of(35, 0), 0);
        due.is("the first that isn't", x.of(36, 0), NONE);
        due.is("it rests", x.told(0), 0);
    }

    private void sides() {
        due.by(TERMS, "6 each; 6 and 6 at first), numbered from 0, row by row.");
        due.is("6 and 6 at first", new GrainGrower().size(6, 6), 66);
        for (int high = 2; high <= 6; high++) {
            for (int wide = 2; wide <= 6; wide++) {
                GrainGrower x = Lattices.of(high, wide, "");
                String size = high + " by " + wide;
                due.is("the first cell of " + size, x.of(0, 0), 0);
                due.is("none ahead of it", x.of(-1, 0), NONE);
                due.is("the last cell of " + size, x.of(high * wide - 1, 0), 0);
                due.is("none behind it", x.of(high * wide, 0), NONE);
                due.is("the second of the first row", x.beside(0, 1), 1);
                due.is("the first of the second row", x.beside(0, 2), wide);
            }
        }
        due.by(2, "HIGH, WIDE become others");
        GrainGrower x = new GrainGrower();
        for (int high = 2; high <= 6; high++) {
            for (int wide = 2; wide <= 6; wide++) {
                x.size(high, wide);
                due.is("HIGH", x.told(6), high);
                due.is("WIDE", x.told(7), wide);
            }
        }
        due.by(2, "10 times HIGH and WIDE as they were.");
        x = new GrainGrower();
        due.is("the greatest", x.size(2, 6), 66);
        due.is("few rows", x.size(6, 2), 26);
        due.is("few columns", x.size(2, 2), 62);
        due.is("the least, to the same", x.size(2, 2), 22);
        due.is("and on", x.size(6, 6), 22);
        sizeTakesAll();
        due.by(2, "BAD.");
        x = new GrainGrower();
        for (int bad : new int[] {1, 0, -1, 7, 8, MAX, MIN}) {
            due.is("HIGH " + bad, x.size(bad, 6), BAD);
            due.is("HIGH " + bad, x.size(bad, 2), BAD);
            due.is("WIDE " + bad, x.size(6, bad), BAD);
            due.is("WIDE " + bad, x.size(2, bad), BAD);
            due.is("both " + bad, x.size(bad, bad), BAD);
        }
        due.is("as it was", x.size(3, 3), 66);
    }

    private void sizeTakesAll() {
        due.by(2, "all CELLS have MARK 0, none a PIN");
        for (int side = 2; side <= 6; side++) {
            GrainGrower x = Lattices.of(6, 6, "7".repeat(36));
            Lattices.pinAll(x, "1".repeat(36));
            x.size(side, 6);
            due.marks("by size", x, "000000".repeat(side));
            due.pins("by size", x, "000000".repeat(side));
            x.size(6, 6);
            due.marks("those that come again", x, "000000".repeat(6));
            due.pins("those that come again", x, "000000".repeat(6));
        }
    }

    private void marksAndPins() {
        due.by(TERMS, "Each CELL has a MARK (0 .. 7; 0 at first) and a PIN, or none (none at first).");
        GrainGrower x = new GrainGrower();
        due.is("MARK 0 at first", x.of(35, 0), 0);
        due.is("no PIN at first", x.of(35, 1), 0);
        due.is("7 is one", x.mark(35, 7), 0);
        due.is("8 isn't", x.mark(35, 8), BAD);
        due.is("0 is one", x.mark(35, 0), 7);
        due.is("-1 isn't", x.mark(35, -1), BAD);
        due.by(3, "MARK of a CELL becomes v: what it was.");
        for (int cell : new int[] {0, 35}) {
            for (int v = 0; v < 8; v++) {
                due.is("was", x.mark(cell, v), v == 0 ? 0 : v - 1);
                due.is("is", x.of(cell, 0), v);
            }
            due.is("to what it is", x.mark(cell, 7), 7);
        }
        due.is("the others have theirs", x.share(0), 34);
        due.by(3, "NONE: cell; BAD; STATE: it has a PIN.");
        for (int cell : new int[] {-1, 36, MAX, MIN}) {
            due.is("cell " + cell, x.mark(cell, 1), NONE);
        }
        for (int v : new int[] {-1, 8, MAX, MIN}) {
            due.is("MARK " + v, x.mark(0, v), BAD);
        }
        x.pin(0, 1);
        due.is("a PIN", x.mark(0, 1), STATE);
        due.is("a PIN, and the MARK it has", x.mark(0, 7), STATE);
        due.is("it stays", x.of(0, 0), 7);
        due.is("the cell behind it has none", x.mark(1, 1), 0);
        x.pin(0, 0);
        due.is("no PIN any more", x.mark(0, 1), 7);
        x.size(2, 3);
        due.is("the last of 2 by 3", x.mark(5, 1), 0);
        due.is("none behind it", x.mark(6, 1), NONE);
        pins();
    }

    private void pins() {
        GrainGrower x = new GrainGrower();
        due.by(4, "A CELL has a PIN (is 1), or none (0): whether it had (1, 0).");
        for (int cell : new int[] {0, 35}) {
            due.is("none to none", x.pin(cell, 0), 0);
            due.is("none to one", x.pin(cell, 1), 0);
            due.is("one to one", x.pin(cell, 1), 1);
            due.is("it has", x.of(cell, 1), 1);
            due.is("one to none", x.pin(cell, 0), 1);
            due.is("it hasn't", x.of(cell, 1), 0);
        }
        due.by(4, "NONE: cell; BAD.");
        for (int cell : new int[] {-1, 36, MAX, MIN}) {
            due.is("cell " + cell, x.pin(cell, 1), NONE);
        }
        for (int is : new int[] {-1, 2, MAX, MIN}) {
            due.is("is " + is, x.pin(0, is), BAD);
        }
        due.is("no PIN came", x.told(5), 0);
        x.pin(0, 1);
        due.is("is -1 where a PIN is", x.pin(0, -1), BAD);
        due.is("it has it still", x.of(0, 1), 1);
        x.size(6, 2);
        due.is("the last of 6 by 2", x.pin(11, 1), 0);
        due.is("none behind it", x.pin(12, 1), NONE);
    }

    private void settings() {
        due.by(TERMS, "HEAT (0 .. 99; 0 at first).");
        GrainGrower x = new GrainGrower();
        due.is("at first", x.told(8), 0);
        due.is("99", x.set(0, 99), 0);
        due.is("100", x.set(0, 100), BAD);
        due.is("0", x.set(0, 0), 99);
        due.is("-1", x.set(0, -1), BAD);
        due.is("it is 0", x.told(8), 0);
        due.by(5, "HEAT (what 0), NEAR (1; 0 .. 2), EDGES (2; 0 .. 2) becomes v: what it was.");
        int[] most = {99, 2, 2};
        for (int what = 0; what < 3; what++) {
            due.is("the most of " + what, x.set(what, most[what]), 0);
            due.is("it is told", x.told(8 + what), most[what]);
            due.is("the least of " + what, x.set(what, 0), most[what]);
            due.is("it is told", x.told(8 + what), 0);
            due.is("to what it is", x.set(what, 0), 0);
            due.is("1 of " + what, x.set(what, 1), 0);
        }
        due.by(5, "NONE: what; BAD.");
        for (int what : new int[] {-1, 3, MAX, MIN}) {
            due.is("what " + what, x.set(what, 0), NONE);
        }
        for (int what = 0; what < 3; what++) {
            for (int v : new int[] {-1, most[what] + 1, MAX, MIN}) {
                due.is("what " + what + ", v " + v, x.set(what, v), BAD);
            }
            due.is("as it was", x.told(8 + what), 1);
        }
        due.by(TERMS, "SEED (an int; 1 at first).");
        due.is("1 at first", new GrainGrower().seed(0), 1);
        due.by(7, "SEED becomes v: what it was (nothing is refused).");
        int was = 1;
        for (int v : new int[] {0, -1, MAX, MIN, 99, 100, -5, 2}) {
            due.is("SEED " + v, x.seed(v), was);
            was = v;
        }
    }

    /** By hand for the middle of 3 by 3: each direction leads to another cell. */
    private void directions() {
        GrainGrower x = Lattices.of(3, 3, "");
        due.by(TERMS, "NEAR, a KIND, tells the DIRECTIONS, in this order: 0 FOUR (at first): up (a row less),"
                + " right (a column more), down, left.");
        dueBeside(x, 4, 1, 5, 7, 3);
        due.by(TERMS, "1 EIGHT: those four, then up right, down right, down left, up left.");
        x.set(1, 1);
        dueBeside(x, 4, 1, 5, 7, 3, 2, 8, 6, 0);
        due.by(TERMS, "2 SIX: those four, then up right, down left.");
        x.set(1, 2);
        dueBeside(x, 4, 1, 5, 7, 3, 2, 6);
        x.set(1, 0);
        dueBeside(x, 4, 1, 5, 7, 3);
    }

    private void dueBeside(GrainGrower x, int cell, int... want) {
        for (int d = 0; d < want.length; d++) {
            due.is("beside(" + cell + ", " + d + ")", x.beside(cell, d), want[d]);
        }
        due.is("beside(" + cell + ", " + want.length + ")", x.beside(cell, want.length), NONE);
        due.is("beside(" + cell + ", -1)", x.beside(cell, -1), NONE);
    }

    private void walls() {
        due.by(TERMS, "EDGES, a KIND, tell what lies beyond: 0 WALL (at first): nothing.");
        GrainGrower x = Lattices.of(3, 4, "");
        x.set(1, 1);
        int no = NOWHERE;
        dueBeside(x, 0, no, 1, 4, no, no, 5, no, no);
        dueBeside(x, 1, no, 2, 5, 0, no, 6, 4, no);
        dueBeside(x, 3, no, no, 7, 2, no, no, 6, no);
        dueBeside(x, 4, 0, 5, 8, no, 1, 9, no, no);
        dueBeside(x, 7, 3, no, 11, 6, no, no, 10, 2);
        dueBeside(x, 8, 4, 9, no, no, 5, no, no, no);
        dueBeside(x, 10, 6, 11, no, 9, 7, no, no, 5);
        dueBeside(x, 11, 7, no, no, 10, no, no, no, 6);
        x = Lattices.of(2, 2, "");
        x.set(1, 2);
        dueBeside(x, 0, no, 1, 2, no, no, no);
        dueBeside(x, 1, no, no, 3, 0, no, 2);
        dueBeside(x, 2, 0, 3, no, no, 1, no);
        dueBeside(x, 3, 1, no, no, 2, no, no);
    }

    private void round() {
        due.by(TERMS, "1 ROUND: beyond the last row the first one, ahead of the first one the last one;"
                + " columns likewise.");
        GrainGrower x = Lattices.of(3, 4, "");
        x.set(1, 1);
        x.set(2, 1);
        dueBeside(x, 0, 8, 1, 4, 3, 9, 5, 7, 11);
        dueBeside(x, 3, 11, 0, 7, 2, 8, 4, 6, 10);
        dueBeside(x, 7, 3, 4, 11, 6, 0, 8, 10, 2);
        dueBeside(x, 8, 4, 9, 0, 11, 5, 1, 3, 7);
        dueBeside(x, 10, 6, 11, 2, 9, 7, 3, 1, 5);
        dueBeside(x, 11, 7, 8, 3, 10, 4, 0, 2, 6);
        x.set(1, 2);
        dueBeside(x, 0, 8, 1, 4, 3, 9, 7);
        dueBeside(x, 11, 7, 8, 3, 10, 4, 2);
    }

    private void twisted() {
        due.by(TERMS, "2 TWISTED: rows as by ROUND;");
        GrainGrower x = Lattices.of(3, 4, "");
        x.set(2, 2);
        due.is("up from the first row", x.beside(2, 0), 10);
        due.is("down from the last row", x.beside(10, 2), 2);
        due.is("up from the first cell", x.beside(0, 0), 8);
        due.is("down from the last cell", x.beside(11, 2), 3);
        due.by(TERMS, "beyond the last column the first column of the next row (behind the last row: of the"
                + " first one),");
        due.is("right from the end of the first row", x.beside(3, 1), 4);
        due.is("right from the end of the second row", x.beside(7, 1), 8);
        due.is("right from the end of the last row", x.beside(11, 1), 0);
        due.by(TERMS, "ahead of the first column the last column of the row ahead (ahead of the first row: of"
                + " the last one).");
        due.is("left from the last row", x.beside(8, 3), 7);
        due.is("left from the second row", x.beside(4, 3), 3);
        due.is("left from the first row", x.beside(0, 3), 11);
    }

    private void steps() {
        due.by(TERMS, "A step in a DIRECTION that has both goes to its row first, then to its column from"
                + " there.");
        GrainGrower x = Lattices.of(3, 4, "");
        x.set(1, 1);
        x.set(2, 2);
        dueBeside(x, 0, 8, 1, 4, 11, 9, 5, 3, 7);
        dueBeside(x, 3, 11, 4, 7, 2, 0, 8, 6, 10);
        dueBeside(x, 4, 0, 5, 8, 3, 1, 9, 7, 11);
        dueBeside(x, 7, 3, 8, 11, 6, 4, 0, 10, 2);
        dueBeside(x, 8, 4, 9, 0, 7, 5, 1, 11, 3);
        dueBeside(x, 11, 7, 0, 3, 10, 8, 4, 2, 6);
        x.set(1, 2);
        dueBeside(x, 3, 11, 4, 7, 2, 0, 6);
        dueBeside(x, 8, 4, 9, 0, 7, 5, 11);
        x.size(2, 2);
        dueBeside(x, 0, 2, 1, 2, 3, 3, 1);
        dueBeside(x, 3, 1, 0, 1, 2, 2, 0);
    }

    private void neverItself() {
        due.by(TERMS, "BESIDE a CELL, in a DIRECTION, is the CELL to which one step leads, if there is one (it"
                + " is never itself; by ROUND, TWISTED it may be the same one in two DIRECTIONS: then it counts"
                + " in each).");
        int[] ways = {4, 8, 6};
        int itself = 0;
        int missing = 0;
        for (int shape = 0; shape < 25 * 9; shape++) {
            GrainGrower x = Lattices.of(2 + shape / 9 / 5, 2 + shape / 9 % 5, "");
            x.set(1, shape % 3);
            x.set(2, shape / 3 % 3);
            for (int cell = 0; cell < Lattices.cells(x); cell++) {
                for (int d = 0; d < ways[shape % 3]; d++) {
                    int other = x.beside(cell, d);
                    itself += other == cell ? 1 : 0;
                    missing += other < 0 && shape / 3 % 3 != 0 ? 1 : 0;
                }
            }
        }
        due.is("cells beside themselves", itself, 0);
        due.is("nothing by ROUND, TWISTED", missing, 0);
        for (int edges = 1; edges < 3; edges++) {
            GrainGrower x = Lattices.of(2, 3, "100 000");
            x.set(2, edges);
            due.is("up and down lead to one", x.beside(0, 0), x.beside(0, 2));
            due.is("it counts in each: ENERGY", x.of(0, 2), 4);
            due.is("for the other too", x.of(3, 2), 2);
            due.is("BORDER", x.told(0), 4);
            due.is("MORE", x.more(3, 1), 1000);
        }
        GrainGrower all = Lattices.of(2, 2, "10 00");
        all.set(1, 1);
        all.set(2, 1);
        due.is("2 by 2 by EIGHT: three cells in eight directions", all.of(0, 2), 8);
    }

    private void priceNumbers() {
        due.by(TERMS, "0 PLAIN (at first, n 1; n 1 .. 9)");
        due.is("at first", new GrainGrower().price(0, 1), 1);
        dueNumbers(0, 1, 9);
        due.by(TERMS, "1 ANGLE (n 1 .. 4)");
        dueNumbers(1, 1, 4);
        due.by(TERMS, "2 TWIN (n 1 .. 4)");
        dueNumbers(2, 1, 4);
        due.by(TERMS, "3 MIXED (n 0 .. 9)");
        dueNumbers(3, 0, 9);
        due.by(6, "PRICE becomes of a KIND (0 .. 3), with a NUMBER: 10 times the KIND and the NUMBER that were.");
        GrainGrower x = new GrainGrower();
        due.is("at first", x.price(3, 0), 1);
        due.is("the last kind, its least", x.price(3, 9), 30);
        due.is("its most", x.price(2, 4), 39);
        due.is("TWIN", x.price(1, 1), 24);
        due.is("ANGLE", x.price(0, 9), 11);
        due.is("PLAIN", x.price(0, 9), 9);
        due.is("told", x.told(11), 9);
        due.by(6, "NONE: kind; BAD: n (as that KIND has it).");
        for (int kind : new int[] {-1, 4, MAX, MIN}) {
            due.is("kind " + kind, x.price(kind, 1), NONE);
        }
        due.is("n 0 is MIXED's alone", x.price(0, 0), BAD);
        due.is("n 5 is not ANGLE's, though it is PLAIN's", x.price(1, 5), BAD);
        due.is("as it was", x.told(11), 9);
        due.is("what is paid is as it was", x.costs(0, 1), 9);
    }

    private void dueNumbers(int kind, int least, int most) {
        GrainGrower x = new GrainGrower();
        for (int n : new int[] {least, most}) {
            x.price(kind, n);
            due.is("kind " + kind + ", n " + n, x.told(11), 10 * kind + n);
        }
        for (int n : new int[] {least - 1, most + 1, MAX, MIN}) {
            due.is("kind " + kind + ", n " + n, x.price(kind, n), BAD);
        }
        due.is("as it was", x.told(11), 10 * kind + most);
    }

    private void priceValues() {
        due.by(TERMS, "PRICE of two MARKS, by its KIND and a NUMBER n; APART, of two MARKS: the lesser of their"
                + " difference and of 8 less that (0 .. 4):");
        dueCosts(1, 4, 0, 1, 2, 3, 4, 3, 2, 1);
        due.by(TERMS, "n, if they are unlike, else 0.");
        dueCosts(0, 1, 0, 1, 1, 1, 1, 1, 1, 1);
        dueCosts(0, 9, 0, 9, 9, 9, 9, 9, 9, 9);
        due.by(TERMS, "APART, n at most.");
        dueCosts(1, 1, 0, 1, 1, 1, 1, 1, 1, 1);
        dueCosts(1, 2, 0, 1, 2, 2, 2, 2, 2, 1);
        dueCosts(1, 3, 0, 1, 2, 3, 3, 3, 2, 1);
        due.by(TERMS, "0, if APART is 0 or n, else 2.");
        dueCosts(2, 1, 0, 0, 2, 2, 2, 2, 2, 0);
        dueCosts(2, 2, 0, 2, 0, 2, 2, 2, 0, 2);
        dueCosts(2, 3, 0, 2, 2, 0, 2, 0, 2, 2);
        dueCosts(2, 4, 0, 2, 2, 2, 0, 2, 2, 2);
        due.by(TERMS, "0, if they are alike; else 1, if both are even or both odd, else n.");
        dueCosts(3, 0, 0, 0, 1, 0, 1, 0, 1, 0);
        dueCosts(3, 1, 0, 1, 1, 1, 1, 1, 1, 1);
        dueCosts(3, 9, 0, 9, 1, 9, 1, 9, 1, 9);
    }

    /** What two marks cost by how far the second is ahead of the first around the ring of eight. */
    private void dueCosts(int kind, int n, int... byDistance) {
        GrainGrower x = new GrainGrower();
        x.price(kind, n);
        for (int one = 0; one < 8; one++) {
            for (int other = 0; other < 8; other++) {
                due.is("kind " + kind + ", n " + n + ": " + one + " and " + other, x.costs(one, other),
                        byDistance[(other - one + 8) % 8]);
            }
        }
    }

    private void energies() {
        due.by(TERMS, "ENERGY of a CELL: PRICE of its MARK and of the MARK of the CELL BESIDE it, for each"
                + " DIRECTION in which there is one, together.");
        GrainGrower x = Lattices.of(3, 3, "100 010 000");
        x.price(0, 9);
        due.is("a corner has two", x.of(0, 2), 18);
        due.is("the middle has four", x.of(4, 2), 36);
        due.is("beside both", x.of(1, 2), 18);
        due.is("beside none", x.of(8, 2), 0);
        x.set(1, 1);
        due.is("the middle has eight, one of them alike", x.of(4, 2), 63);
        due.by(TERMS, "BORDER: ENERGY of all CELLS, together, by 2 (a whole number).");
        due.is("none", new GrainGrower().told(0), 0);
        int odd = 0;
        int unlike = 0;
        for (int shape = 0; shape < 25 * 9; shape++) {
            GrainGrower y = Lattices.of(2 + shape / 9 / 5, 2 + shape / 9 % 5, "");
            y.set(1, shape % 3);
            y.set(2, shape / 3 % 3);
            y.price(1, 4);
            int sum = 0;
            for (int cell = 0; cell < Lattices.cells(y); cell++) {
                y.mark(cell, (cell * cell + shape) % 8);
            }
            for (int cell = 0; cell < Lattices.cells(y); cell++) {
                sum += y.of(cell, 2);
            }
            odd += sum % 2;
            unlike += 2 * y.told(0) == sum ? 0 : 1;
        }
        due.is("sums that are no whole number by 2", odd, 0);
        due.is("borders that are not half the sum", unlike, 0);
        x = Lattices.of(6, 6, "010101 101010 ".repeat(3));
        x.price(0, 9);
        due.is("every wall of FOUR by WALL", x.told(0), 60 * 9);
        x.set(2, 1);
        due.is("every wall of FOUR by ROUND", x.told(0), 72 * 9);
    }

    private void more() {
        due.by(TERMS, "MORE, of a CELL and a MARK: ENERGY of the CELL, had it that MARK and all others theirs,"
                + " less its ENERGY now (may be below 0).");
        GrainGrower x = Lattices.of(3, 3, "000 010 000");
        x.price(0, 9);
        x.set(1, 1);
        due.is("far below 0", x.more(4, 0), 928);
        due.is("0, by another that is unlike too", x.more(4, 2), 1000);
        due.is("0, by its own", x.more(4, 1), 1000);
        x.mark(4, 0);
        due.is("far above 0", x.more(4, 7), 1072);
        due.is("the others have theirs still", x.of(4, 2), 0);
    }

    /** The next SEED; the test's own draws are by longs. */
    private static int after(int seed) {
        return (int) (seed * 1103515245L + 12345L);
    }

    private static int drawn(int seedThen, int below) {
        return (int) (Math.floorMod((long) seedThen, 1L << 31) / 65536 % below);
    }

    private static int seedThatDraws(int hundredths) {
        int seed = 0;
        while (drawn(after(seed), 100) != hundredths) {
            seed++;
        }
        return seed;
    }

    private void changeWithoutDraw() {
        due.by(TERMS, "A CHANGE of a CELL to a MARK: if the CELL has a PIN, or that MARK already, nothing happens"
                + " (and there is no DRAW).");
        GrainGrower x = Lattices.of(3, 3, "000 010 000");
        x.set(0, 99);
        x.pin(4, 1);
        due.is("a PIN, though MORE is below 0", x.change(4, 0), 0);
        due.is("no DRAW", x.seed(1), 1);
        x.pin(0, 1);
        due.is("a PIN, though HEAT is there", x.change(0, 1), 0);
        due.is("no DRAW", x.seed(1), 1);
        due.is("that MARK already", x.change(8, 0), 0);
        due.is("no DRAW", x.seed(1), 1);
        due.is("that MARK already, and a PIN", x.change(0, 0), 0);
        due.is("no DRAW", x.seed(1), 1);
        due.marks("nothing happened", x, "000 010 000");
        due.by(TERMS, "Else, if MORE is 0 or less, it GOES: the CELL has that MARK.");
        x = Lattices.of(2, 3, "001 000");
        due.is("MORE is 1", x.more(1, 1), 1001);
        due.is("so it does not go, without HEAT", x.change(1, 1), 0);
        due.is("MORE is 0", x.more(5, 1), 1000);
        due.is("so it GOES", x.change(5, 1), 1);
        due.is("that MARK", x.of(5, 0), 1);
        x.mark(0, 1);
        due.is("MORE is -1", x.more(1, 1), 999);
        due.is("so it GOES", x.change(1, 1), 1);
        x = Lattices.of(2, 2, "01 00");
        due.is("MORE 0", x.more(0, 1), 1000);
        due.is("it GOES", x.change(0, 1), 1);
        due.is("that MARK", x.of(0, 0), 1);
        due.is("to a MARK that none beside has, MORE 0", x.change(2, 1), 1);
        due.is("no DRAW", x.seed(1), 1);
        due.by(TERMS, "Else, if HEAT by MORE, cut, is 0, nothing happens (no DRAW).");
        for (int price = 1; price <= 9; price++) {
            x = Lattices.of(2, 2, "");
            x.price(0, price);
            x.set(0, 2 * price - 1);
            due.is("HEAT is one less than MORE", x.change(0, 1), 0);
            due.is("no DRAW", x.seed(1), 1);
            x.set(0, 2 * price);
            x.seed(seedThatDraws(1));
            x.change(0, 1);
            due.is("HEAT as MORE is: a DRAW", x.seed(1), after(seedThatDraws(1)));
        }
        x = new GrainGrower();
        due.is("HEAT 0", x.change(0, 1), 0);
        due.is("no DRAW", x.seed(1), 1);
    }

    private void changeByDraw() {
        due.by(TERMS, "Else it GOES, if a DRAW below 100 is less than HEAT by MORE, cut.");
        for (int price = 1; price <= 9; price++) {
            for (int heat = 2 * price; heat < 100; heat += heat < 90 ? 7 : 1) {
                int chance = heat / (2 * price);
                GrainGrower x = Lattices.of(2, 2, "");
                x.price(0, price);
                x.set(0, heat);
                x.seed(seedThatDraws(chance));
                String what = "HEAT " + heat + " by MORE " + 2 * price;
                due.is(what + ", a DRAW as much", x.change(0, 1), 0);
                due.is("nothing happened", x.of(0, 0), 0);
                due.is("one DRAW", x.seed(seedThatDraws(chance - 1)), after(seedThatDraws(chance)));
                due.is(what + ", a DRAW of one less", x.change(0, 1), 1);
                due.is("it has that MARK", x.of(0, 0), 1);
                due.is("one DRAW", x.seed(1), after(seedThatDraws(chance - 1)));
            }
        }
        GrainGrower x = Lattices.of(2, 3, "001 000");
        x.set(0, 99);
        x.seed(seedThatDraws(99));
        due.is("99 is not less than 99", x.change(1, 1), 0);
        x.seed(seedThatDraws(98));
        due.is("98 is", x.change(1, 1), 1);
        due.by(8, "A CHANGE of a CELL to a MARK: 1 it GOES, 0 not.");
        x = new GrainGrower();
        due.is("not, in the first cell", x.change(0, 7), 0);
        due.is("not, in the last cell", x.change(35, 7), 0);
        x.mark(35, 7);
        due.is("it GOES, in the last cell", x.change(35, 0), 1);
        x.mark(0, 1);
        due.is("it GOES, to the last MARK", x.change(0, 7), 1);
        due.by(8, "NONE: cell; BAD: v.");
        for (int cell : new int[] {-1, 36, MAX, MIN}) {
            due.is("cell " + cell, x.change(cell, 0), NONE);
        }
        for (int v : new int[] {-1, 8, MAX, MIN}) {
            due.is("MARK " + v, x.change(0, v), BAD);
        }
        due.is("no DRAW", x.seed(1), 1);
    }

    private void draws() {
        due.by(TERMS, "A DRAW below m: SEED becomes SEED times 1103515245, plus 12345 (an int, wrapping);");
        int[] seeds = {0, 1, -1, MAX, MIN, MAX - 1, MIN + 1, 2, 99, -99, 65535, 65536, 1 << 30, 12345678};
        for (int seed : seeds) {
            GrainGrower x = new GrainGrower();
            x.seed(seed);
            x.tries(1);
            due.is("two DRAWS from " + seed, x.seed(seed), after(after(seed)));
            x.set(0, 99);
            x.change(0, 1);
            due.is("one DRAW from " + seed, x.seed(0), after(seed));
        }
        due.by(TERMS, "(SEED without its sign's bit, by 65536, cut) modulo m.");
        int above = 0;
        int below = 0;
        for (int seed : seeds) {
            int then = after(seed);
            above += then > 0 ? 1 : 0;
            below += then < 0 ? 1 : 0;
            dueTry(6, 6, 0, seed);
        }
        due.so("draws with the sign's bit and without it", above > 2 && below > 2);
    }

    /** One TRY from SEED, where each that has a cell beside it GOES without a DRAW. */
    private void dueTry(int high, int wide, int near, int seed) {
        GrainGrower x = Lattices.of(high, wide, "");
        for (int cell = 0; cell < high * wide; cell++) {
            x.mark(cell, (2 * (cell / wide) + cell % wide) % 8);
        }
        x.set(1, near);
        x.seed(seed);
        String was = Lattices.marksOf(x);
        int cell = drawn(after(seed), high * wide);
        int direction = drawn(after(after(seed)), near == 0 ? 4 : near == 1 ? 8 : 6);
        int other = x.beside(cell, direction);
        String want = other < 0 ? was
                : was.substring(0, cell) + was.charAt(other) + was.substring(cell + 1);
        String what = high + " by " + wide + ", NEAR " + near + ", SEED " + seed;
        due.is(what, x.tries(1), other < 0 ? 0 : 1);
        due.marks(what + ": cell " + cell + ", direction " + direction, x, want);
        due.is(what + ": two DRAWS", x.seed(1), after(after(seed)));
    }

    private void tries() {
        due.by(TERMS, "A TRY: a DRAW below how many CELLS there are tells a CELL, then a DRAW below how many"
                + " DIRECTIONS there are tells a DIRECTION. If there is a CELL BESIDE it there: a CHANGE of the"
                + " first one to the MARK of that one.");
        for (int high = 2; high <= 6; high++) {
            for (int wide = 2; wide <= 6; wide++) {
                for (int near = 0; near < 3; near++) {
                    for (int seed = -7; seed < 8; seed++) {
                        dueTry(high, wide, near, seed * 98765);
                    }
                }
            }
        }
        due.by(9, "n TRIES (0 .. 200), one behind the other: how many CHANGES GO.");
        for (int n : new int[] {0, 1, 2, 199, 200}) {
            GrainGrower one = Lattices.of(6, 6, SCATTERED);
            GrainGrower many = Lattices.of(6, 6, SCATTERED);
            one.set(0, 99);
            many.set(0, 99);
            int went = 0;
            for (int i = 0; i < n; i++) {
                went += one.tries(1);
            }
            due.is(n + " at once", many.tries(n), went);
            due.marks(n + " at once", many, Lattices.marksOf(one));
            due.is(n + " at once: SEED", many.seed(1), one.seed(1));
        }
        GrainGrower x = Lattices.of(6, 6, SCATTERED);
        due.is("0", x.tries(0), 0);
        due.is("no DRAW", x.seed(1), 1);
        due.by(9, "BAD.");
        for (int n : new int[] {-1, 201, MAX, MIN}) {
            due.is("n " + n, x.tries(n), BAD);
        }
        due.is("no DRAW", x.seed(1), 1);
        due.marks("no TRY", x, SCATTERED);
    }

    private void rounds() {
        due.by(TERMS, "A ROUND OF COOLING: CELL by CELL, by numbers, each by what all have by then:");
        GrainGrower x = Lattices.of(2, 3, "012 222");
        due.is("0 becomes 1, of 1 and 2 the least; then the 1 beside it becomes 2", x.cool(1), 2);
        due.marks("one round", x, "122 222");
        x = Lattices.of(2, 2, "53 25");
        due.is("each by what the ones ahead have by then", x.cool(1), 3);
        due.marks("all become 2", x, "22 22");
        due.by(TERMS, "one without PIN takes, of the MARKS of all BESIDE it, that by which its ENERGY would be"
                + " least (of several the least MARK), if that is less than its ENERGY is.");
        x = Lattices.of(2, 2, "07 50");
        x.pin(1, 1);
        x.pin(2, 1);
        x.pin(3, 1);
        due.is("5 or 7", x.cool(1), 1);
        due.marks("of several the least MARK", x, "57 50");
        x = Lattices.of(2, 2, "01 01");
        due.is("as much is not less", x.cool(1), 0);
        x = Lattices.of(2, 2, "01 11");
        x.pin(0, 1);
        due.is("not one with a PIN", x.cool(1), 0);
        x = Lattices.of(3, 3, "000 010 000");
        due.is("it takes theirs", x.cool(1), 1);
        due.marks("all alike", x, "000 000 000");
        x = Lattices.of(2, 2, "40 20");
        Lattices.pinAll(x, "01 11");
        x.price(1, 4);
        // 1 would cost 2, as 0 and 2 do; of the marks beside the least is taken.
        due.is("4 costs 6 beside 0 and 2", x.of(0, 2), 6);
        due.is("a change", x.cool(1), 1);
        due.is("the least of those beside", x.of(0, 0), 0);
        x = Lattices.of(2, 2, "01 30");
        Lattices.pinAll(x, "11 10");
        x.price(2, 1);
        due.is("2 would cost 0 beside 1 and 3", x.more(3, 2), 998);
        due.is("but none beside has it", x.cool(1), 0);
        x = Lattices.of(2, 2, "17 16");
        Lattices.pinAll(x, "11 10");
        x.price(2, 1);
        due.is("0 would cost 0 beside 7 and 1", x.more(3, 0), 998);
        due.is("but none beside has it", x.cool(1), 0);
        x = Lattices.of(2, 2, "12 03");
        Lattices.pinAll(x, "11 01");
        x.price(2, 1);
        x.set(1, 1);
        x.set(1, 0);
        due.is("2 was beside by EIGHT, but is no more", x.cool(1), 0);
        x.set(1, 1);
        due.is("by EIGHT it is taken", x.cool(1), 1);
        due.is("2", x.of(2, 0), 2);
    }

    private void cool() {
        due.by(10, "n ROUNDS OF COOLING (0 .. 30): how many MARKS change, all together.");
        for (int n : new int[] {0, 1, 2, 29, 30}) {
            GrainGrower one = Lattices.coolingFor(31);
            GrainGrower many = Lattices.coolingFor(31);
            int changed = 0;
            for (int i = 0; i < n; i++) {
                int now = one.cool(1);
                due.so("round " + i + " changes something", now > 0);
                changed += now;
            }
            due.is(n + " at once", many.cool(n), changed);
            due.marks(n + " at once", many, Lattices.marksOf(one));
            due.so("the next one changes something too", many.cool(1) > 0);
        }
        GrainGrower x = Lattices.of(2, 3, "221 000");
        due.is("30, of which three change one MARK each", x.cool(30), 3);
        due.is("30 of a lattice at rest", x.cool(30), 0);
        x.set(0, 99);
        x.cool(30);
        due.is("no DRAW", x.seed(1), 1);
        due.by(10, "BAD.");
        x = Lattices.of(2, 3, "221 000");
        for (int n : new int[] {-1, 31, MAX, MIN}) {
            due.is("n " + n, x.cool(n), BAD);
        }
        due.marks("no round", x, "221 000");
    }
}
