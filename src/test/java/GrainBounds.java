/** What is told, and grains: promises 13 to 25, and what part 2 of the document says of them. */
final class GrainBounds {
    private static final int NONE = Due.NONE, BAD = Due.BAD, NOWHERE = Due.NOWHERE;
    private static final int MAX = Due.MAX, MIN = Due.MIN;
    private static final int TERMS = Due.TERMS;
    /** By FOUR and WALL each cell is a grain of its own. */
    private static final String SCATTERED = "012345 234567 456701 670123 012345 234567";

    private final Due due;

    GrainBounds(Due due) {
        this.due = due;
    }

    void run() {
        of();
        beside();
        costsAndMore();
        told();
        share();
        grains();
        grainParts();
        large();
        squares();
        walls();
        gone();
        cold();
        best();
    }

    private void of() {
        due.by(13, "Of a CELL its MARK (what 0), whether it has a PIN (1; 1, 0), ENERGY (2), its GRAIN (3).");
        GrainGrower x = Lattices.of(2, 2, "00 07");
        x.pin(3, 1);
        int[][] want = {{0, 0, 0, 0}, {7, 1, 2, 1}};
        for (int what = 0; what < 4; what++) {
            due.is("the first cell, what " + what, x.of(0, what), want[0][what]);
            due.is("the last cell, what " + what, x.of(3, what), want[1][what]);
        }
        x = Lattices.of(6, 6, SCATTERED);
        due.is("the last grain of 36", x.of(35, 3), 35);
        x = Lattices.of(6, 6, "010101 101010 ".repeat(3));
        x.set(1, 1);
        x.set(2, 1);
        x.price(0, 9);
        due.is("the greatest ENERGY of a board by EIGHT", x.of(0, 2), 36);
        due.by(13, "NONE: cell, what.");
        for (int what = 0; what < 4; what++) {
            for (int cell : new int[] {-1, 36, MAX, MIN}) {
                due.is("cell " + cell + ", what " + what, x.of(cell, what), NONE);
            }
        }
        for (int what : new int[] {-1, 4, MAX, MIN}) {
            due.is("what " + what, x.of(0, what), NONE);
            due.is("what " + what, x.of(35, what), NONE);
        }
        x.size(2, 6);
        due.is("the last of 2 by 6", x.of(11, 3), 0);
        due.is("none behind it", x.of(12, 3), NONE);
    }

    private void beside() {
        due.by(14, "The CELL BESIDE a CELL in a DIRECTION; -5: there is nothing.");
        GrainGrower x = new GrainGrower();
        due.is("the first cell, up", x.beside(0, 0), NOWHERE);
        due.is("the first cell, left", x.beside(0, 3), NOWHERE);
        due.is("the first cell, right", x.beside(0, 1), 1);
        due.is("the last cell, right", x.beside(35, 1), NOWHERE);
        due.is("the last cell, down", x.beside(35, 2), NOWHERE);
        due.is("the last cell, up", x.beside(35, 0), 29);
        x.set(2, 1);
        due.is("by ROUND", x.beside(0, 0), 30);
        x.set(2, 0);
        due.is("by WALL again", x.beside(0, 0), NOWHERE);
        due.by(14, "NONE: cell, direction (0 on; no such one by NEAR).");
        for (int cell : new int[] {-1, 36, MAX, MIN}) {
            due.is("cell " + cell, x.beside(cell, 0), NONE);
        }
        int[] ways = {4, 8, 6};
        for (int near : new int[] {1, 0, 2, 1, 2, 0}) {
            x.set(1, near);
            due.so("the last by NEAR " + near, x.beside(14, ways[near] - 1) >= 0);
            for (int direction : new int[] {-1, ways[near], ways[near] + 1, 8, MAX, MIN}) {
                due.is("NEAR " + near + ", direction " + direction, x.beside(14, direction), NONE);
                due.is("where nothing is either", x.beside(0, direction), NONE);
            }
        }
        x.size(6, 2);
        due.is("none behind the last of 6 by 2", x.beside(12, 0), NONE);
    }

    private void costsAndMore() {
        due.by(15, "PRICE of two MARKS.");
        GrainGrower x = new GrainGrower();
        x.price(1, 4);
        due.is("the first two", x.costs(0, 0), 0);
        due.is("the first and the last", x.costs(0, 7), 1);
        due.is("the last and the first", x.costs(7, 0), 1);
        due.is("the last two", x.costs(7, 7), 0);
        due.is("the farthest", x.costs(3, 7), 4);
        due.by(15, "NONE: either.");
        for (int mark : new int[] {-1, 8, MAX, MIN}) {
            due.is("one " + mark, x.costs(mark, 0), NONE);
            due.is("other " + mark, x.costs(0, mark), NONE);
            due.is("other " + mark, x.costs(7, mark), NONE);
            due.is("both " + mark, x.costs(mark, mark), NONE);
        }
        due.by(16, "MORE, 1000 more than it is.");
        x = new GrainGrower();
        due.is("0", x.more(35, 0), 1000);
        due.is("above 0", x.more(35, 7), 1002);
        x.mark(35, 7);
        due.is("below 0", x.more(35, 0), 998);
        x.pin(35, 1);
        due.is("with a PIN too", x.more(35, 0), 998);
        due.by(16, "NONE: cell; BAD: v.");
        for (int cell : new int[] {-1, 36, MAX, MIN}) {
            due.is("cell " + cell, x.more(cell, 0), NONE);
        }
        for (int v : new int[] {-1, 8, MAX, MIN}) {
            due.is("MARK " + v, x.more(0, v), BAD);
        }
        x.size(2, 2);
        due.is("none behind the last of 2 by 2", x.more(4, 0), NONE);
    }

    private void told() {
        due.by(17, "0 BORDER, 1 how many GRAINS, 2 the greatest SIZE, 3 the first GRAIN with it, 4 how many"
                + " ISLANDS, 5 how many PINS, 6 HIGH, 7 WIDE, 8 HEAT, 9 NEAR, 10 EDGES, 11 10 times the KIND of"
                + " PRICE and its NUMBER.");
        dueTold("a new object", new GrainGrower(), 0, 1, 36, 0, 0, 0, 6, 6, 0, 0, 0, 1);
        GrainGrower x = Lattices.of(6, 6, SCATTERED);
        Lattices.pinAll(x, "1".repeat(36));
        x.set(0, 99);
        x.price(0, 9);
        dueTold("as many grains and pins as cells", x, 540, 36, 1, 0, 0, 36, 6, 6, 99, 0, 0, 9);
        x = Lattices.of(2, 2, "01 10");
        x.set(1, 2);
        x.set(2, 0);
        x.price(3, 0);
        dueTold("SIX: the ones hang together, the others don't", x, 0, 3, 2, 1, 2, 0, 2, 2, 0, 2, 0, 30);
        x = Lattices.of(2, 6, "001122 001122");
        dueTold("of several the first", x, 4, 3, 4, 0, 2, 0, 2, 6, 0, 0, 0, 1);
        x.set(2, 2);
        // Twisted, each row's end meets the next row's beginning: two walls more.
        dueTold("TWISTED: no island is left", x, 6, 3, 4, 0, 0, 0, 2, 6, 0, 0, 2, 1);
        due.by(17, "NONE.");
        for (int what : new int[] {-1, 12, MAX, MIN}) {
            due.is("what " + what, x.told(what), NONE);
        }
    }

    private void dueTold(String name, GrainGrower x, int... want) {
        for (int what = 0; what < want.length; what++) {
            due.is(name + ": told(" + what + ")", x.told(what), want[what]);
        }
    }

    private void share() {
        due.by(18, "How many CELLS have a MARK.");
        GrainGrower x = new GrainGrower();
        due.is("all", x.share(0), 36);
        due.is("none", x.share(7), 0);
        x.mark(0, 7);
        x.mark(35, 7);
        due.is("the first and the last", x.share(7), 2);
        due.is("the others", x.share(0), 34);
        x.size(2, 2);
        due.is("those of a lesser lattice alone", x.share(0), 4);
        due.by(18, "NONE.");
        for (int mark : new int[] {-1, 8, MAX, MIN}) {
            due.is("mark " + mark, x.share(mark), NONE);
        }
    }

    private void grains() {
        due.by(TERMS, "A GRAIN: CELLS of one MARK that hang together by steps in DIRECTIONS; GRAINS are"
                + " numbered from 0 by their least CELLS.");
        GrainGrower x = Lattices.of(3, 3, "101 001 111");
        due.is("the first is that of cell 0", x.of(0, 3), 0);
        due.is("cell 1", x.of(1, 3), 1);
        due.is("cell 2, that hangs on by the last row", x.of(2, 3), 2);
        due.is("its end", x.of(6, 3), 2);
        due.is("three in all", x.told(1), 3);
        x.set(2, 1);
        due.is("by ROUND the first row hangs on the last", x.told(1), 2);
        due.is("cell 2 is of the first now", x.of(2, 3), 0);
        x = Lattices.of(2, 2, "01 10");
        due.is("not by a corner of FOUR", x.told(1), 4);
        x.set(1, 2);
        due.is("by one corner of SIX", x.told(1), 3);
        x.set(1, 1);
        due.is("by each corner of EIGHT", x.told(1), 2);
        x = Lattices.of(2, 3, "010 101");
        x.set(2, 2);
        due.is("TWISTED: 2 goes on with 3, 5 with 0", x.of(2, 3), 2);
        due.is("all are unlike those beside", x.told(1), 6);
        x = Lattices.of(2, 3, "001 100");
        x.set(2, 2);
        due.is("TWISTED: 2 and 3 hang together", x.of(3, 3), x.of(2, 3));
        due.is("5 and 0 do", x.of(5, 3), 0);
        due.is("two grains", x.told(1), 2);
        due.is("one of all", new GrainGrower().of(35, 3), 0);
    }

    private void grainParts() {
        due.by(TERMS, "SIZE of one: how many CELLS; RIM: ENERGY of all its CELLS, together; NEIGHBOURS: how"
                + " many other GRAINS have a CELL BESIDE a CELL of it; PINNED: how many of its CELLS have a"
                + " PIN.");
        GrainGrower x = new GrainGrower();
        dueGrain("one of all", x, 0, 0, 0, 36, 0, 0, 0);
        Lattices.pinAll(x, "1".repeat(36));
        dueGrain("one of all, pinned", x, 0, 0, 0, 36, 0, 0, 36);
        x = Lattices.of(3, 3, "121 304 151");
        x.pin(4, 1);
        x.pin(8, 1);
        dueGrain("the middle has four neighbours", x, 4, 4, 0, 1, 4, 4, 1);
        dueGrain("the last corner has two", x, 8, 8, 1, 1, 2, 2, 1);
        x.set(1, 1);
        dueGrain("eight of EIGHT", x, 4, 4, 0, 1, 8, 8, 1);
        x = Lattices.of(3, 3, "111 101 111");
        dueGrain("one neighbour by four cells", x, 1, 4, 0, 1, 4, 1, 0);
        dueGrain("RIM is by both", x, 0, 0, 1, 8, 4, 1, 0);
        due.by(TERMS, "ISLANDS: GRAINS with just one NEIGHBOUR.");
        due.is("none has one", new GrainGrower().told(4), 0);
        due.is("each of two", x.told(4), 2);
        due.is("the outer two of three", Lattices.of(2, 3, "012 012").told(4), 2);
        due.is("none of four with two each", Lattices.of(2, 2, "01 23").told(4), 0);
        due.by(19, "Of a GRAIN its least CELL (what 0), MARK (1), SIZE (2), RIM (3), NEIGHBOURS (4), PINNED (5).");
        x = Lattices.of(6, 6, SCATTERED);
        x.pin(35, 1);
        dueGrain("the first of 36", x, 0, 0, 0, 1, 2, 2, 0);
        dueGrain("the last of 36", x, 35, 35, 7, 1, 2, 2, 1);
        due.by(19, "NONE: grain, what.");
        for (int what = 0; what < 6; what++) {
            for (int grain : new int[] {-1, 36, MAX, MIN}) {
                due.is("grain " + grain + ", what " + what, x.grain(grain, what), NONE);
            }
        }
        for (int what : new int[] {-1, 6, MAX, MIN}) {
            due.is("what " + what, x.grain(0, what), NONE);
            due.is("what " + what, x.grain(35, what), NONE);
        }
        Lattices.reading(x, "p35;f00351");
        due.is("one is left", x.grain(0, 2), 36);
        due.is("the others are no more", x.grain(1, 2), NONE);
        due.is("nor are they neighbours", x.grain(0, 4), 0);
        due.is("nor islands", x.told(4), 0);
        due.is("nor are there walls", x.walls(0, 35), 0);
    }

    private void dueGrain(String name, GrainGrower x, int grain, int... want) {
        for (int what = 0; what < want.length; what++) {
            due.is(name + ": what " + what, x.grain(grain, what), want[what]);
        }
    }

    private void large() {
        due.by(20, "How many GRAINS have a SIZE of n or more.");
        GrainGrower x = Lattices.of(2, 5, "00012 00033");
        int[] want = {4, 2, 1, 1, 1, 1, 0};
        for (int n = 1; n <= want.length; n++) {
            due.is("n " + n, x.large(n), want[n - 1]);
        }
        due.is("n 36 of a lesser lattice", x.large(36), 0);
        due.is("n 36 of all", new GrainGrower().large(36), 1);
        due.is("n 1 of 36", Lattices.of(6, 6, SCATTERED).large(1), 36);
        due.is("n 2 of 36", Lattices.of(6, 6, SCATTERED).large(2), 0);
        due.by(20, "BAD: n (1 .. 36).");
        for (int n : new int[] {0, -1, 37, MAX, MIN}) {
            due.is("n " + n, x.large(n), BAD);
        }
    }

    private void squares() {
        due.by(TERMS, "A SQUARE: four CELLS of two rows, one next to the other, and of two columns likewise"
                + " (within the lattice, whatever EDGES are);");
        for (int high = 2; high <= 6; high++) {
            for (int wide = 2; wide <= 6; wide++) {
                GrainGrower x = Lattices.of(high, wide, "");
                for (int edges = 0; edges < 3; edges++) {
                    x.set(2, edges);
                    due.is(high + " by " + wide + ", EDGES " + edges, x.meets(0, 1), (high - 1) * (wide - 1));
                }
            }
        }
        due.by(TERMS, "SQUARES are numbered from 0 by their least CELLS;");
        for (int high = 2; high <= 6; high++) {
            for (int wide = 2; wide <= 6; wide++) {
                GrainGrower x = Lattices.of(high, wide, "");
                x.mark(high * wide - 1, 1);
                due.is("the last corner: the last square", x.meets(1, 2), (high - 1) * (wide - 1) - 1);
                x.mark(high * wide - 1, 0);
                x.mark(wide - 1, 1);
                due.is("the end of the first row", x.meets(1, 2), wide - 2);
                x.mark(wide - 1, 0);
                x.mark((high - 1) * wide, 1);
                due.is("the first of the last row", x.meets(1, 2), (high - 2) * (wide - 1));
            }
        }
        due.by(TERMS, "it MEETS as many GRAINS as its four CELLS are of.");
        due.is("one", Lattices.of(2, 2, "00 00").meets(0, 1), 1);
        due.is("two", Lattices.of(2, 2, "00 01").meets(0, 2), 1);
        due.is("three", Lattices.of(2, 2, "01 02").meets(0, 3), 1);
        due.is("four", Lattices.of(2, 2, "01 23").meets(0, 4), 1);
        due.is("grains, not marks", Lattices.of(2, 2, "01 10").meets(0, 4), 1);
        GrainGrower around = Lattices.of(3, 3, "000 010 100");
        due.is("both 0 are one grain, all around", around.meets(1, 3), 2);
        due.is("so none meets four", around.meets(1, 4), NOWHERE);
        due.by(21, "How many SQUARES MEET just n GRAINS (side 0), the first of them (1; -5: none).");
        GrainGrower x = Lattices.of(6, 6, SCATTERED);
        due.is("all meet four", x.meets(0, 4), 25);
        due.is("the first of all", x.meets(1, 4), 0);
        due.is("none meets three", x.meets(0, 3), 0);
        due.is("none is the first", x.meets(1, 3), NOWHERE);
        due.is("none meets one", x.meets(1, 1), NOWHERE);
        due.by(21, "NONE: side; BAD: n (1 .. 4).");
        for (int side : new int[] {-1, 2, MAX, MIN}) {
            due.is("side " + side, x.meets(side, 1), NONE);
        }
        for (int n : new int[] {0, -1, 5, MAX, MIN}) {
            due.is("side 0, n " + n, x.meets(0, n), BAD);
            due.is("side 1, n " + n, x.meets(1, n), BAD);
        }
    }

    private void walls() {
        due.by(TERMS, "WALLS of two CELLS: the fewest times that one comes from one GRAIN to another one, on"
                + " steps in DIRECTIONS from the one CELL to the other (0: they are of one GRAIN).");
        GrainGrower x = Lattices.of(6, 6, SCATTERED);
        due.is("from corner to corner", x.walls(0, 35), 10);
        due.is("and back", x.walls(35, 0), 10);
        x.set(1, 1);
        due.is("by EIGHT", x.walls(0, 35), 5);
        x = Lattices.of(6, 6, SCATTERED);
        x.set(2, 2);
        due.is("TWISTED: the last is left of the first", x.walls(0, 35), 1);
        x = Lattices.of(3, 3, "000 111 000");
        due.is("of one GRAIN", x.walls(0, 2), 0);
        due.is("of one MARK only", x.walls(0, 8), 2);
        x.set(2, 1);
        due.is("of one GRAIN by ROUND", x.walls(0, 8), 0);
        x = Lattices.of(3, 3, "010 111 010");
        due.is("the fewest, not the straight way", x.walls(0, 6), 2);
        x = Lattices.of(2, 6, "012340 000000");
        due.is("along the grain that goes around", x.walls(1, 4), 2);
        due.by(22, "WALLS of two CELLS.");
        due.is("a cell and itself", x.walls(11, 11), 0);
        due.is("the first and the last", x.walls(0, 11), 0);
        due.is("one", x.walls(1, 11), 1);
        due.by(22, "NONE: either.");
        for (int cell : new int[] {-1, 12, 36, MAX, MIN}) {
            due.is("one " + cell, x.walls(cell, 0), NONE);
            due.is("other " + cell, x.walls(0, cell), NONE);
            due.is("both " + cell, x.walls(cell, cell), NONE);
        }
    }

    private void gone() {
        due.by(TERMS, "GONE of a CELL: behind how many ROUNDS OF COOLING (0 .. 30) first none of the CELLS that"
                + " are of its GRAIN now has the MARK that it has now (-5: not by then).");
        due.is("behind 30", Lattices.lastingFor(30).gone(3), 30);
        due.is("behind 31 is too late", Lattices.lastingFor(31).gone(2), NOWHERE);
        GrainGrower x = Lattices.lastingFor(31);
        x.cool(30);
        due.so("behind 30 one of its two has its MARK", x.of(2, 0) == 2 || x.of(3, 0) == 2);
        x.cool(1);
        due.so("behind 31 none has", x.of(2, 0) != 2 && x.of(3, 0) != 2);
        x = Lattices.of(3, 3, "000 010 000");
        due.is("behind the first", x.gone(4), 1);
        due.is("never", x.gone(0), NOWHERE);
        x = Lattices.of(2, 3, "221 000");
        due.is("behind the third, by each of its cells", x.gone(0), 3);
        due.is("behind the third, by each of its cells", x.gone(1), 3);
        x.pin(1, 1);
        due.is("a PIN holds it", x.gone(0), NOWHERE);
        due.is("the other is gone behind the first", x.gone(2), 1);
        x = Lattices.of(2, 4, "1000 0001");
        due.is("another of the same MARK does not count", x.gone(0), 1);
        x.pin(7, 1);
        due.is("even one that stays", x.gone(0), 1);
        due.by(23, "GONE; -5.");
        due.is("a lattice at rest", new GrainGrower().gone(35), NOWHERE);
        x.mark(0, 7);
        due.is("the first cell", x.gone(0), 1);
        due.by(23, "NONE: cell.");
        for (int cell : new int[] {-1, 8, 36, MAX, MIN}) {
            due.is("cell " + cell, x.gone(cell), NONE);
        }
    }

    private void cold() {
        due.by(TERMS, "COLD: how many ROUNDS OF COOLING (0 .. 30) go by ahead of the first that changes nothing"
                + " (-5: none of 30 does);");
        due.is("none goes by", new GrainGrower().cold(0), 0);
        due.is("one", Lattices.of(3, 3, "000 010 000").cold(0), 1);
        due.is("three", Lattices.of(2, 3, "221 000").cold(0), 3);
        due.is("29: the thirtieth changes nothing", Lattices.coolingFor(29).cold(0), 29);
        due.is("30: none of 30 changes nothing", Lattices.coolingFor(30).cold(0), NOWHERE);
        due.is("31", Lattices.coolingFor(31).cold(0), NOWHERE);
        for (int rounds = 29; rounds <= 31; rounds++) {
            GrainGrower x = Lattices.coolingFor(rounds);
            int went = 0;
            while (went < 40 && x.cool(1) > 0) {
                went++;
            }
            due.is("so many rounds change something, one by one", went >= 31 ? 31 : went, rounds);
        }
        due.by(TERMS, "BORDER behind these (behind 30, if -5).");
        GrainGrower x = Lattices.of(2, 3, "221 000");
        due.is("behind three", x.cold(1), 0);
        x.pin(0, 1);
        due.is("behind two", x.cold(1), 2);
        for (int rounds = 29; rounds <= 31; rounds++) {
            x = Lattices.coolingFor(rounds);
            int border = x.cold(1);
            x.cool(Math.min(rounds, 30));
            due.is("behind " + Math.min(rounds, 30), border, x.told(0));
        }
        due.so("which is another one behind 31", x.cool(1) > 0 && x.told(0) != Lattices.coolingFor(31).cold(1));
        due.by(24, "COLD: what 0 how many (-5), 1 BORDER.");
        x = Lattices.of(2, 2, "01 01");
        due.is("how many", x.cold(0), 0);
        due.is("BORDER", x.cold(1), 2);
        due.by(24, "NONE.");
        for (int what : new int[] {-1, 2, MAX, MIN}) {
            due.is("what " + what, x.cold(what), NONE);
        }
    }

    private void best() {
        due.by(TERMS, "BEST: the CELL (without PIN) and the MARK (0 .. 7, not its own) for which MORE is least,"
                + " if that is below 0;");
        dueBest("0 is not below 0", Lattices.of(2, 2, "01 01"), NOWHERE, NOWHERE, NOWHERE);
        dueBest("-1 is", Lattices.of(2, 3, "011 001"), 1, 0, 1);
        dueBest("the first cell", Lattices.of(2, 3, "211 111"), 0, 1, 2);
        dueBest("the last cell", Lattices.of(2, 2, "11 10"), 3, 1, 2);
        GrainGrower x = Lattices.of(3, 3, "100 010 000");
        dueBest("the least MORE, not the least CELL", x, 4, 0, 4);
        x.pin(4, 1);
        dueBest("without PIN", x, 0, 0, 2);
        x.pin(0, 1);
        dueBest("without PIN", x, 1, 1, 1);
        Lattices.pinAll(x, "111 111 111");
        dueBest("none is without PIN", x, NOWHERE, NOWHERE, NOWHERE);
        x = Lattices.of(3, 3, "777 707 777");
        dueBest("the last MARK", x, 4, 7, 4);
        x = Lattices.of(2, 2, "13 30");
        x.price(2, 1);
        Lattices.pinAll(x, "11 10");
        dueBest("a MARK that none has", x, 3, 2, 4);
        due.by(TERMS, "of several the least CELL, then the least MARK.");
        dueBest("two cells as good", Lattices.of(2, 4, "1000 0001"), 0, 0, 2);
        dueBest("two marks as good, and four cells", Lattices.of(2, 2, "07 52"), 0, 5, 1);
        x = Lattices.of(2, 2, "04 40");
        x.price(2, 1);
        // Beside 4 twice: 3, 4 and 5 all cost nothing.
        dueBest("of three marks the least", x, 0, 3, 4);
        due.by(25, "BEST: what 0 the CELL, 1 the MARK, 2 by how much BORDER is less then; -5: there is none.");
        x = Lattices.of(3, 3, "000 010 000");
        x.price(0, 9);
        x.set(1, 1);
        dueBest("the most", x, 4, 0, 72);
        x.mark(x.best(0), x.best(1));
        due.is("BORDER then", x.told(0), 0);
        dueBest("there is none", x, NOWHERE, NOWHERE, NOWHERE);
        due.by(25, "NONE.");
        for (int what : new int[] {-1, 3, MAX, MIN}) {
            due.is("what " + what, x.best(what), NONE);
        }
    }

    private void dueBest(String name, GrainGrower x, int cell, int mark, int less) {
        due.is(name + ": the CELL", x.best(0), cell);
        due.is(name + ": the MARK", x.best(1), mark);
        due.is(name + ": by how much", x.best(2), less);
    }
}
