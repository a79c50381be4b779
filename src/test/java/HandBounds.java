import java.math.BigInteger;
import java.util.Random;

/** SEEN, odds, EVENTS and the BOOK: promises 26 to 34, and what part 2 of the document says of them. */
final class HandBounds {
    private static final int NONE = Due.NONE, BAD = Due.BAD, FULL = Due.FULL, NOWHERE = Due.NOWHERE;
    private static final long NO = Due.NO;
    private static final int MAX = Due.MAX, MIN = Due.MIN;
    private static final int TERMS = Due.TERMS;
    private static final String SCATTERED = "012345 234567 456701 670123 012345 234567";

    private final Due due;

    HandBounds(Due due) {
        this.due = due;
    }

    void run() {
        see();
        fits();
        fitsRefused();
        odds();
        mean();
        worth();
        event();
        after();
        book();
        looked();
    }

    private void see() {
        due.by(TERMS, "SEEN told by hand: a CELL, a MARK (6 rows at most).");
        GrainGrower x = new GrainGrower();
        for (int i = 1; i <= 6; i++) {
            due.is("row " + i, x.see(35, 0), i);
        }
        due.is("row 7", x.see(35, 0), FULL);
        due.is("six", x.count(0), 6);
        due.by(26, "What is SEEN comes: how many there are (cell -1: none then, 0, whatever the rest is).");
        for (int rest : new int[] {0, 7, 8, -1, MAX, MIN}) {
            due.is("none then", x.see(-1, rest), 0);
            due.is("none", x.count(0), 0);
            due.is("none, of none", x.see(-1, rest), 0);
            due.is("the first", x.see(0, 0), 1);
            due.is("the second, the same", x.see(0, 0), 2);
        }
        x.see(-1, 0);
        x.see(0, 7);
        due.is("it is not so", x.fits(0, 0), 0);
        x.see(-1, 0);
        due.is("it is gone", x.fits(0, 0), 100);
        due.by(26, "NONE: cell; BAD: v; FULL: 6.");
        for (int cell : new int[] {-2, 36, MAX, MIN}) {
            due.is("cell " + cell, x.see(cell, 0), NONE);
        }
        for (int v : new int[] {-1, 8, MAX, MIN}) {
            due.is("MARK " + v, x.see(0, v), BAD);
        }
        due.is("none came", x.count(0), 0);
        due.is("the last cell, the last mark", x.see(35, 7), 1);
        x.size(2, 2);
        due.is("the first that is no more", x.see(4, 0), NONE);
        due.is("the last of 2 by 2", x.see(3, 0), 2);
    }

    /** On SCATTERED behind n TRIES just one SEED of -1 .. 100 leaves these two so (found by a search). */
    private GrainGrower seenBy(int one, int itsMark, int other, int otherMark) {
        GrainGrower x = Lattices.of(6, 6, SCATTERED);
        x.see(one, itsMark);
        x.see(other, otherMark);
        return x;
    }

    private void dueFits(String what, GrainGrower x, int n, int many, int least) {
        due.is(what + ": how many", x.fits(n, 0), many);
        due.is(what + ": the least", x.fits(n, 1), least);
    }

    private void fits() {
        due.by(TERMS, "FITS of n TRIES (0 .. 60): how many SEEDS 0 .. 99 there are by which, were that SEED"
                + " now, behind n TRIES from now each of SEEN would be so; the least (-5: none).");
        dueFits("SEED 0, 10 TRIES", seenBy(21, 7, 4, 5), 10, 1, 0);
        dueFits("SEED 99, 10 TRIES", seenBy(6, 4, 8, 2), 10, 1, 99);
        dueFits("SEED 100, 10 TRIES", seenBy(8, 7, 8, 7), 10, 0, NOWHERE);
        dueFits("SEED -1, 10 TRIES", seenBy(3, 5, 1, 3), 10, 0, NOWHERE);
        dueFits("SEED 0, 60 TRIES", seenBy(30, 4, 0, 0), 60, 1, 0);
        dueFits("SEED 99, 60 TRIES", seenBy(33, 1, 4, 3), 60, 1, 99);
        dueFits("SEED 100, 60 TRIES", seenBy(16, 4, 1, 3), 60, 0, NOWHERE);
        dueFits("SEED -1, 60 TRIES", seenBy(23, 6, 0, 3), 60, 0, NOWHERE);
        GrainGrower x = Lattices.of(6, 6, SCATTERED);
        for (int seed : new int[] {-1, 0, 99, 100}) {
            x = Lattices.of(6, 6, SCATTERED);
            x.seed(seed);
            x.tries(10);
            int so = seed == 0 ? x.of(21, 0) * 10 + x.of(4, 0) : seed == 99 ? x.of(6, 0) * 10 + x.of(8, 0)
                    : seed == 100 ? x.of(8, 0) * 11 : x.of(3, 0) * 10 + x.of(1, 0);
            due.is("so it is by SEED " + seed, so, seed == 0 ? 75 : seed == 99 ? 42 : seed == 100 ? 77 : 53);
        }
        x = Lattices.of(6, 6, SCATTERED);
        dueFits("nothing SEEN", x, 60, 100, 0);
        x.see(35, 7);
        dueFits("0 TRIES, so it is", x, 0, 100, 0);
        x.see(0, 1);
        dueFits("0 TRIES, one of two is not so", x, 0, 0, NOWHERE);
        x.see(-1, 0);
        x.see(0, 0);
        x.see(0, 1);
        dueFits("one CELL can't have two MARKS", x, 60, 0, NOWHERE);
        x.see(-1, 0);
        for (int i = 0; i < 5; i++) {
            x.see(0, 0);
        }
        x.see(1, 7);
        dueFits("the sixth row counts", x, 0, 0, NOWHERE);
        dueFitsByHeat();
    }

    /** HEAT, PINS and what else there is now count; SEED now does not. */
    private void dueFitsByHeat() {
        GrainGrower x = seenBy(6, 4, 8, 2);
        x.seed(MIN);
        dueFits("whatever SEED is now", x, 10, 1, 99);
        due.is("SEED stays", x.seed(1), MIN);
        x.pin(6, 1);
        dueFits("a PIN keeps it as it is", x, 10, 0, NOWHERE);
        x = new GrainGrower();
        x.mark(14, 3);
        x.pin(14, 1);
        x.see(13, 3);
        dueFits("MORE without HEAT", x, 60, 0, NOWHERE);
        x.set(0, 99);
        due.so("at HEAT some do", x.fits(60, 0) > 0);
    }

    private void fitsRefused() {
        due.by(27, "FITS: what 0 how many, 1 the least (-5).");
        GrainGrower x = new GrainGrower();
        due.is("how many", x.fits(0, 0), 100);
        due.is("the least", x.fits(0, 1), 0);
        x.see(0, 1);
        due.is("how many of none", x.fits(0, 0), 0);
        due.is("the least of none", x.fits(0, 1), NOWHERE);
        due.by(27, "BAD: n; NONE: what.");
        x.see(-1, 0);
        due.is("60", x.fits(60, 0), 100);
        for (int n : new int[] {-1, 61, MAX, MIN}) {
            due.is("n " + n, x.fits(n, 0), BAD);
            due.is("n " + n, x.fits(n, 1), BAD);
        }
        for (int what : new int[] {-1, 2, MAX, MIN}) {
            due.is("what " + what, x.fits(0, what), NONE);
            due.is("what " + what, x.fits(60, what), NONE);
        }
        due.by(27, "(What is SEEN of a CELL that is no more is not so.)");
        x.see(24, 0);
        dueFits("it is there", x, 0, 100, 0);
        x.size(5, 5);
        dueFits("the last of 5 by 5", x, 60, 100, 0);
        x.size(4, 6);
        dueFits("no more in 4 by 6", x, 60, 0, NOWHERE);
        dueFits("no more in 4 by 6", x, 0, 0, NOWHERE);
        x.size(6, 6);
        dueFits("it is there again", x, 0, 100, 0);
    }

    private void dueOdds(String what, GrainGrower x, long above, long below) {
        due.is(what + ": above", x.odds(0), above);
        due.is(what + ": below", x.odds(1), below);
    }

    private void odds() {
        due.by(TERMS, "ODDS: how likely a TRY changes a MARK, each CELL, each DIRECTION alike likely, a CHANGE"
                + " that needs a DRAW going with as many hundredths as told: a fraction in lowest terms.");
        dueOdds("never", new GrainGrower(), 0, 1);
        GrainGrower x = Lattices.of(6, 6, SCATTERED);
        dueOdds("120 of 144 lead to a cell", x, 5, 6);
        x.set(2, 2);
        dueOdds("always", x, 1, 1);
        Lattices.pinAll(x, "1".repeat(36));
        dueOdds("never with pins", x, 0, 1);
        // 2 by 3, 100 000: of 24 ways two change cell 0, one cell 3 (MORE 0), one cell 1 (MORE 1).
        for (int heat : new int[] {0, 1, 50, 99}) {
            x = Lattices.of(2, 3, "100 000");
            x.set(0, heat);
            int divisor = BigInteger.valueOf(300 + heat).gcd(BigInteger.valueOf(2400)).intValue();
            dueOdds("HEAT " + heat, x, (300 + heat) / divisor, 2400 / divisor);
        }
        x.price(0, 9);
        x.set(0, 8);
        dueOdds("8 by 9, cut, is 0", x, 1, 8);
        x.set(0, 9);
        dueOdds("9 by 9 is a hundredth", x, 301, 2400);
        x.set(0, 17);
        dueOdds("17 by 9, cut, is one", x, 301, 2400);
        x.set(0, 18);
        dueOdds("18 by 9 is two", x, 151, 1200);
        dueOddsOfAll();
        due.by(28, "ODDS; part 0 above, 1 below the line.");
        x = Lattices.of(6, 6, SCATTERED);
        due.is("above", x.odds(0), 5);
        due.is("below", x.odds(1), 6);
        due.by(28, "NO: part.");
        for (int part : new int[] {-1, 2, MAX, MIN}) {
            due.is("part " + part, x.odds(part), NO);
        }
    }

    private void dueOddsOfAll() {
        int[] ways = {4, 8, 6};
        for (int shape = 0; shape < 25 * 9; shape++) {
            GrainGrower x = Lattices.of(2 + shape / 9 / 5, 2 + shape / 9 % 5, "");
            x.set(0, 90 + shape % 10);
            x.set(1, shape % 3);
            x.set(2, shape / 3 % 3);
            int cells = Lattices.cells(x);
            for (int cell = 0; cell < cells; cell++) {
                x.mark(cell, (cell * cell + shape) / 3 % 3);
            }
            x.pin(shape % cells, 1);
            long hundredths = 0;
            for (int cell = 0; cell < cells; cell++) {
                for (int d = 0; d < ways[shape % 3]; d++) {
                    hundredths += hundredthsOf(x, cell, x.beside(cell, d));
                }
            }
            long all = 100L * cells * ways[shape % 3];
            long divisor = BigInteger.valueOf(hundredths).gcd(BigInteger.valueOf(all)).longValue();
            dueOdds("shape " + shape, x, hundredths / divisor, all / divisor);
        }
    }

    private static int hundredthsOf(GrainGrower x, int cell, int other) {
        if (other < 0 || x.of(cell, 1) == 1 || x.of(cell, 0) == x.of(other, 0)) {
            return 0;
        }
        int more = x.more(cell, x.of(other, 0)) - 1000;
        return more <= 0 ? 100 : x.told(8) / more;
    }

    private void mean() {
        due.by(TERMS, "MEAN: CELLS by GRAINS: a fraction in lowest terms.");
        dueMean("one grain of all", new GrainGrower(), 36, 1);
        dueMean("as many as cells", Lattices.of(6, 6, SCATTERED), 1, 1);
        dueMean("4 by 3", Lattices.of(2, 2, "00 12"), 4, 3);
        dueMean("4 by 2", Lattices.of(2, 2, "00 11"), 2, 1);
        dueMean("6 by 3", Lattices.of(2, 3, "012 011"), 2, 1);
        dueMean("6 by 4", Lattices.of(2, 3, "012 013"), 3, 2);
        due.by(29, "MEAN; part likewise.");
        GrainGrower x = Lattices.of(2, 5, "00112 00122");
        due.is("above", x.mean(0), 10);
        due.is("below", x.mean(1), 3);
        due.by(29, "NO: part.");
        for (int part : new int[] {-1, 2, MAX, MIN}) {
            due.is("part " + part, x.mean(part), NO);
        }
    }

    private void dueMean(String what, GrainGrower x, long above, long below) {
        due.is(what + ": above", x.mean(0), above);
        due.is(what + ": below", x.mean(1), below);
    }

    private void worth() {
        due.by(TERMS, "WORTH of a long: it times itself, times BORDER; then, plus it times how many GRAINS"
                + " there are: each of these steps as a long (NO: one goes beyond a long).");
        GrainGrower full = Lattices.of(6, 6, SCATTERED);
        full.price(0, 9);
        GrainGrower[] lattices = {new GrainGrower(), Lattices.of(2, 2, "00 01"), Lattices.of(2, 3, "010 000"),
            Lattices.of(2, 3, "012 345"), full, Lattices.of(2, 2, "01 10")};
        for (GrainGrower x : lattices) {
            long limit = greatestWorthwhile(x, 1);
            long least = greatestWorthwhile(x, -1);
            for (long by = -2; by <= 2; by++) {
                dueWorth(x, limit + by);
                dueWorth(x, -least + by);
                dueWorth(x, by);
            }
            due.is("the greatest and one more", x.worth(limit + 1), NO);
            due.is("the least and one less", x.worth(-least - 1), NO);
            for (long per : new long[] {Long.MAX_VALUE, Long.MIN_VALUE, Long.MIN_VALUE + 1, 3037000499L, 3037000500L,
                -3037000499L, -3037000500L, 1L << 31, 1L << 32, -(1L << 31), -(1L << 32), 1L << 62}) {
                dueWorth(x, per);
            }
        }
        due.by(30, "WORTH.");
        due.is("0", full.worth(0), 0);
        due.is("1", full.worth(1), 540 + 36);
        due.is("-1", full.worth(-1), 540 - 36);
        due.is("border 0, one grain", new GrainGrower().worth(-9), -9);
        due.by(30, "NO: as told.");
        due.is("the square is beyond, though BORDER is 0", new GrainGrower().worth(3037000500L), NO);
        due.is("the greatest square", new GrainGrower().worth(3037000499L), 3037000499L);
        GrainGrower three = Lattices.of(2, 3, "010 000");
        due.is("only the sum is beyond", three.worth(1753413056L), NO);
        due.is("it is not, below 0", three.worth(-1753413056L), 9223372031346951296L);
    }

    private static boolean isLong(BigInteger n) {
        return n.bitLength() < 64;
    }

    private static long worthOf(GrainGrower x, long per) {
        BigInteger p = BigInteger.valueOf(per);
        BigInteger first = p.multiply(p).multiply(BigInteger.valueOf(x.told(0)));
        BigInteger second = p.multiply(BigInteger.valueOf(x.told(1)));
        boolean fits = isLong(p.multiply(p)) && isLong(first) && isLong(second) && isLong(first.add(second));
        return fits ? first.add(second).longValueExact() : NO;
    }

    private static long greatestWorthwhile(GrainGrower x, int sign) {
        long least = 0;
        long beyond = 1L << 32;
        while (beyond - least > 1) {
            long middle = (least + beyond) / 2;
            if (worthOf(x, sign * middle) == NO) {
                beyond = middle;
            } else {
                least = middle;
            }
        }
        return least;
    }

    private void dueWorth(GrainGrower x, long per) {
        due.is("worth(" + per + ") by BORDER " + x.told(0), x.worth(per), worthOf(x, per));
    }

    private void event() {
        due.by(TERMS, "EVENTS told by hand: what happens (0 n TRIES, 0 .. 60; 1 n ROUNDS OF COOLING, 0 .. 9; 2"
                + " CELL n has a PIN, if it has none, else none any more; 3 HEAT becomes n; 4 SEED becomes n, 0"
                + " .. 99; 8 rows at most):");
        int[] most = {60, 9, 35, 99, 99};
        GrainGrower x = new GrainGrower();
        for (int what = 0; what < 5; what++) {
            x.event(-1, 0);
            int refusal = what == 2 ? NONE : BAD;
            due.is("the least of " + what, x.event(what, 0), 1);
            due.is("the most of " + what, x.event(what, most[what]), 2);
            due.is("one less", x.event(what, -1), refusal);
            due.is("one more", x.event(what, most[what] + 1), refusal);
            due.is("MAX", x.event(what, MAX), refusal);
            due.is("MIN", x.event(what, MIN), refusal);
            due.is("two rows", x.count(1), 2);
        }
        x.event(-1, 0);
        for (int i = 1; i <= 8; i++) {
            due.is("row " + i, x.event(0, 60), i);
        }
        due.is("row 9", x.event(0, 60), FULL);
        due.by(31, "A row comes to EVENTS: how many there are (what -1: none then, 0, whatever the rest is).");
        for (int rest : new int[] {0, 60, 61, -1, MAX, MIN}) {
            due.is("none then", x.event(-1, rest), 0);
            due.is("none", x.count(1), 0);
            due.is("none, of none", x.event(-1, rest), 0);
            due.is("the first", x.event(4, 9), 1);
            due.is("the second, the same", x.event(4, 9), 2);
        }
        due.by(31, "NONE: what (0 .. 4), CELL n; BAD: n by the others (3: 0 .. 99); FULL: 8.");
        x.event(-1, 0);
        for (int what : new int[] {-2, 5, MAX, MIN}) {
            due.is("what " + what, x.event(what, 0), NONE);
        }
        due.is("HEAT 100", x.event(3, 100), BAD);
        due.is("HEAT -1", x.event(3, -1), BAD);
        due.is("HEAT 99", x.event(3, 99), 1);
        due.is("HEAT 0", x.event(3, 0), 2);
        x.size(2, 3);
        due.is("the last of 2 by 3", x.event(2, 5), 3);
        due.is("none behind it", x.event(2, 6), NONE);
        for (int i = 4; i <= 8; i++) {
            due.is("row " + i, x.event(1, 9), i);
        }
        for (int what = 0; what < 5; what++) {
            due.is("row 9, what " + what, x.event(what, 0), FULL);
        }
        due.is("eight still", x.count(1), 8);
    }

    private void dueAfter(String what, GrainGrower x, int border, int grains, int greatest) {
        due.is(what + ": BORDER", x.after(0), border);
        due.is(what + ": GRAINS", x.after(1), grains);
        due.is(what + ": the greatest SIZE", x.after(2), greatest);
    }

    private void after() {
        due.by(TERMS, "AFTER, behind all of it (CELLS that are no more: nothing): BORDER; how many GRAINS; the"
                + " greatest SIZE.");
        GrainGrower x = Lattices.of(2, 3, "221 000");
        dueAfter("no events", x, 4, 3, 3);
        for (int i = 1; i <= 8; i++) {
            x.event(1, i < 6 ? 0 : 1);
        }
        dueAfter("the eighth row counts", x, 0, 1, 6);
        x.event(-1, 0);
        dueAfter("no events any more", x, 4, 3, 3);
        x = Lattices.coolingFor(31);
        x.event(1, 9);
        x.event(1, 9);
        GrainGrower cooled = Lattices.coolingFor(31);
        cooled.cool(18);
        dueAfter("18 rounds", x, cooled.told(0), cooled.told(1), cooled.told(2));
        x = Lattices.of(6, 6, SCATTERED);
        GrainGrower y = Lattices.of(6, 6, SCATTERED);
        x.seed(MAX);
        y.seed(MAX);
        x.event(0, 60);
        y.tries(60);
        dueAfter("60 TRIES from SEED as it is", x, y.told(0), y.told(1), y.told(2));
        x.event(4, 99);
        x.event(3, 99);
        x.event(0, 60);
        x.event(4, 0);
        x.event(0, 60);
        y.seed(99);
        y.set(0, 99);
        y.tries(60);
        y.seed(0);
        y.tries(60);
        dueAfter("SEED 99, HEAT 99, then SEED 0", x, y.told(0), y.told(1), y.told(2));
        due.is("SEED stays", x.seed(1), MAX);
        due.is("HEAT stays", x.told(8), 0);
        due.marks("MARKS stay", x, SCATTERED);
        afterPins();
        afterEach();
        due.by(32, "AFTER: what 0 BORDER, 1 how many GRAINS, 2 the greatest SIZE.");
        dueAfter("all grains", Lattices.of(6, 6, SCATTERED), 60, 36, 1);
        dueAfter("one grain", new GrainGrower(), 0, 1, 36);
        due.by(32, "NONE.");
        for (int what : new int[] {-1, 3, MAX, MIN}) {
            due.is("what " + what, x.after(what), NONE);
        }
    }

    private void afterPins() {
        GrainGrower x = Lattices.of(3, 3, "000 000 001");
        x.event(2, 8);
        x.event(1, 9);
        dueAfter("a PIN in the last cell", x, 2, 2, 8);
        x.event(2, 8);
        x.event(1, 9);
        dueAfter("none any more", x, 0, 1, 9);
        x.event(-1, 0);
        x.pin(8, 1);
        x.event(2, 8);
        x.event(1, 1);
        dueAfter("its PIN is no more", x, 0, 1, 9);
        due.is("it has it still", x.of(8, 1), 1);
        x.size(2, 4);
        x.mark(7, 1);
        dueAfter("cell 8 of 2 by 4: nothing, then a round", x, 0, 1, 8);
        x.event(-1, 0);
        x.event(2, 7);
        x.event(1, 1);
        dueAfter("cell 7 of 2 by 4", x, 2, 2, 7);
        x.size(2, 3);
        x.mark(5, 1);
        dueAfter("cell 7 of 2 by 3: nothing, then a round", x, 0, 1, 6);
        x.size(6, 6);
        x.mark(7, 1);
        dueAfter("cell 7 is there again", x, 4, 2, 35);
    }

    /** Each row does just what the call of its kind does: eight of them against the calls themselves. */
    private void afterEach() {
        Random random = new Random(7);
        for (int run = 0; run < 200; run++) {
            GrainGrower told = Lattices.of(6, 6, SCATTERED);
            GrainGrower done = Lattices.of(6, 6, SCATTERED);
            StringBuilder rows = new StringBuilder();
            for (int i = 0; i < 8; i++) {
                int what = random.nextInt(5);
                int n = what == 0 ? random.nextInt(61) : what == 1 ? random.nextInt(3) * 4
                        : what == 2 ? random.nextInt(36) : random.nextInt(100);
                told.event(what, n);
                undergo(done, what, n);
                rows.append(' ').append(what).append(':').append(n);
                dueAfter("rows" + rows, told, done.told(0), done.told(1), done.told(2));
            }
        }
    }

    private static void undergo(GrainGrower x, int what, int n) {
        switch (what) {
            case 0 -> x.tries(n);
            case 1 -> x.cool(n);
            case 2 -> x.pin(n, 1 - x.of(n, 1));
            case 3 -> x.set(0, n);
            default -> x.seed(n);
        }
    }

    private void book() {
        due.by(33, "A row comes to the BOOK: how many there are (cell -1: it is empty then, 0, whatever the"
                + " rest is).");
        GrainGrower x = new GrainGrower();
        for (int rest : new int[] {0, 7, 8, -1, MAX, MIN}) {
            due.is("empty then", x.book(-1, rest), 0);
            due.is("empty", x.count(2), 0);
            due.is("empty, of an empty one", x.book(-1, rest), 0);
            due.is("the first", x.book(35, 7), 1);
            due.is("the second, the same", x.book(35, 7), 2);
        }
        due.by(33, "NONE: cell; BAD: v; FULL: 8.");
        for (int cell : new int[] {-2, 36, MAX, MIN}) {
            due.is("cell " + cell, x.book(cell, 0), NONE);
        }
        for (int v : new int[] {-1, 8, MAX, MIN}) {
            due.is("MARK " + v, x.book(0, v), BAD);
        }
        for (int i = 3; i <= 8; i++) {
            due.is("row " + i, x.book(0, 0), i);
        }
        due.is("row 9", x.book(0, 0), FULL);
        due.is("eight still", x.count(2), 8);
        x.book(-1, 0);
        x.size(2, 2);
        due.is("the first that is no more", x.book(4, 0), NONE);
        due.is("the last of 2 by 2", x.book(3, 0), 1);
    }

    private void looked() {
        due.by(TERMS, "A BOOK told by hand: CELLS, MARKS (8 rows at most):");
        GrainGrower x = new GrainGrower();
        for (int i = 1; i <= 8; i++) {
            due.is("row " + i, x.book(i, 0), i);
        }
        due.is("row 9", x.book(9, 0), FULL);
        due.by(TERMS, "LOOKED at: the number (from 0) of the first of these rows whose CELL isn't there, or has"
                + " another MARK now (-5: none).");
        due.is("none", x.looked(), NOWHERE);
        x.mark(9, 1);
        due.is("none: the ninth row isn't there", x.looked(), NOWHERE);
        for (int i = 8; i >= 1; i--) {
            x.mark(i, 7);
            due.is("row " + (i - 1), x.looked(), i - 1);
        }
        x.book(-1, 0);
        due.is("an empty one", x.looked(), NOWHERE);
        x.size(6, 6);
        x.book(3, 0);
        x.book(4, 0);
        x.size(2, 2);
        due.is("cell 4 isn't there", x.looked(), 1);
        x.mark(3, 1);
        due.is("cell 3 has another MARK", x.looked(), 0);
        x.size(2, 3);
        due.is("both are there", x.looked(), NOWHERE);
        due.by(34, "LOOKED at; -5.");
        due.is("-5", x.looked(), NOWHERE);
        x.mark(4, 1);
        due.is("the last row", x.looked(), 1);
    }
}
