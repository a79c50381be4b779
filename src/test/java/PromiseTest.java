/** For each promise of the document what is due, worked out by hand: the usual, the edges, the refused. */
public final class PromiseTest {
    private static final int NONE = -1, BAD = -2, STATE = -3, FULL = -4, NOWHERE = -5;
    private static final int NOTHING = -11, CAST = -12, PLACE = -13, SIZE = -14;
    private static final long NO = Long.MIN_VALUE;
    private static final int MAX = Integer.MAX_VALUE, MIN = Integer.MIN_VALUE;

    private static int wrong = 0;
    private static int asked = 0;
    private static int promise = 0;

    public static void main(String[] args) {
        promise = 1;
        newObject();
        promise = 2;
        size();
        promise = 3;
        mark();
        promise = 4;
        pin();
        promise = 5;
        set();
        promise = 6;
        price();
        promise = 7;
        seed();
        promise = 8;
        change();
        promise = 9;
        tries();
        promise = 10;
        cool();
        promise = 11;
        feed();
        promise = 12;
        readFaults();
        readClauses();
        promise = 13;
        of();
        promise = 14;
        beside();
        promise = 15;
        costs();
        promise = 16;
        more();
        promise = 17;
        told();
        promise = 18;
        share();
        promise = 19;
        grain();
        promise = 20;
        large();
        promise = 21;
        meets();
        promise = 22;
        walls();
        promise = 23;
        gone();
        promise = 24;
        cold();
        promise = 25;
        best();
        promise = 26;
        see();
        promise = 27;
        fits();
        promise = 28;
        odds();
        promise = 29;
        mean();
        promise = 30;
        worth();
        promise = 31;
        event();
        promise = 32;
        after();
        promise = 33;
        book();
        promise = 34;
        looked();
        promise = 35;
        judge();
        promise = 36;
        image();
        promise = 37;
        undo();
        promise = 38;
        count();
        promise = 39;
        tape();
        promise = 40;
        item();
        promise = 41;
        peek();
        promise = 42;
        shift();
        askedChangesNothing();
        refusedChangesNothing();
        System.out.println(asked + " answers looked at, " + wrong + " are not as due");
        if (wrong != 0) {
            System.exit(1);
        }
    }

    private static void due(String what, long got, long want) {
        asked++;
        if (got != want) {
            wrong++;
            System.out.println("promise " + promise + ": " + what + " answered " + got + ", due is " + want);
        }
    }

    /** Numbers that are no cell, mark, kind and so on anywhere. */
    private static final int[] NEVER = {-2, -100, 201, MAX, MIN};

    private static void dueMarks(String what, GrainGrower x, String want) {
        String got = Lattices.marksOf(x);
        due(what + " leaves " + got + " (" + want.replace(" ", "") + ")",
                got.equals(want.replace(" ", "")) ? 1 : 0, 1);
    }

    private static void newObject() {
        GrainGrower x = new GrainGrower();
        int[] told = {0, 1, 36, 0, 0, 0, 6, 6, 0, 0, 0, 1};
        for (int what = 0; what < told.length; what++) {
            due("told " + what, x.told(what), told[what]);
        }
        for (int c = 0; c < 36; c++) {
            due("mark of " + c, x.of(c, 0), 0);
            due("pin of " + c, x.of(c, 1), 0);
        }
        for (int what = 0; what < 4; what++) {
            due("count " + what, x.count(what), 0);
        }
        for (int t = 0; t < 6; t++) {
            due("item of an empty tape", x.item(t, 0, 1), NOTHING);
        }
        due("seed", x.seed(5), 1);
        due("undo", x.undo(), STATE);
    }

    private static void size() {
        GrainGrower x = new GrainGrower();
        x.mark(0, 3);
        x.mark(35, 4);
        x.pin(35, 1);
        x.set(0, 12);
        x.set(1, 1);
        x.set(2, 2);
        x.price(1, 3);
        x.see(0, 3);
        x.event(2, 35);
        x.book(35, 4);
        for (int bad : new int[] {1, 7, 0, -1, -6, 10, 66, MAX, MIN}) {
            due("size(" + bad + ", 4)", x.size(bad, 4), BAD);
            due("size(4, " + bad + ")", x.size(4, bad), BAD);
        }
        due("mark behind a refused size", x.of(35, 0), 4);
        due("size(2, 6)", x.size(2, 6), 66);
        due("HIGH", x.told(6), 2);
        due("WIDE", x.told(7), 6);
        due("no cell 12", x.of(12, 0), NONE);
        due("cell 11", x.of(11, 0), 0);
        dueMarks("size(2, 6)", x, "000000 000000");
        due("HEAT stays", x.told(8), 12);
        due("NEAR stays", x.told(9), 1);
        due("EDGES stay", x.told(10), 2);
        due("PRICE stays", x.told(11), 13);
        due("SEEN stays", x.count(0), 1);
        due("EVENTS stay", x.count(1), 1);
        due("the BOOK stays", x.count(2), 1);
        due("size(6, 2)", x.size(6, 2), 26);
        due("size(6, 6)", x.size(6, 6), 62);
        due("no mark is left", x.share(0), 36);
        due("no pin is left", x.told(5), 0);
        x.mark(7, 7);
        x.pin(7, 1);
        due("size as it was", x.size(6, 6), 66);
        due("even so no mark is left", x.of(7, 0), 0);
        due("even so no pin is left", x.of(7, 1), 0);
        for (int h = 2; h <= 6; h++) {
            for (int w = 2; w <= 6; w++) {
                x.size(h, w);
                due("cells of " + h + " by " + w, x.share(0), h * w);
                due("the last cell", x.of(h * w - 1, 0), 0);
                due("none beyond", x.of(h * w, 0), NONE);
            }
        }
    }

    private static void mark() {
        GrainGrower x = new GrainGrower();
        due("mark(0, 7)", x.mark(0, 7), 0);
        due("mark(0, 2)", x.mark(0, 2), 7);
        due("mark(35, 1)", x.mark(35, 1), 0);
        due("mark(35, 1) again", x.mark(35, 1), 1);
        due("mark(-1, 9): the cell first", x.mark(-1, 9), NONE);
        due("mark(36, 0)", x.mark(36, 0), NONE);
        due("mark(0, 8)", x.mark(0, 8), BAD);
        due("mark(0, -1)", x.mark(0, -1), BAD);
        for (int n : NEVER) {
            due("mark(" + n + ", 0)", x.mark(n, 0), NONE);
            due("mark(0, " + n + ")", x.mark(0, n), BAD);
        }
        x.pin(0, 1);
        due("mark(0, 8) under a pin", x.mark(0, 8), BAD);
        due("mark(0, 5) under a pin", x.mark(0, 5), STATE);
        due("mark(0, 2) under a pin, as it is", x.mark(0, 2), STATE);
        due("it stays", x.of(0, 0), 2);
        x.pin(0, 0);
        due("mark(0, 5) without pin", x.mark(0, 5), 2);
        x.size(2, 3);
        due("mark(5, 1)", x.mark(5, 1), 0);
        due("mark(6, 1)", x.mark(6, 1), NONE);
    }

    private static void pin() {
        GrainGrower x = new GrainGrower();
        due("pin(3, 1)", x.pin(3, 1), 0);
        due("pin(3, 1) again", x.pin(3, 1), 1);
        due("it has", x.of(3, 1), 1);
        due("pin(3, 0)", x.pin(3, 0), 1);
        due("pin(3, 0) again", x.pin(3, 0), 0);
        due("pin(35, 0)", x.pin(35, 0), 0);
        due("pin(36, 5): the cell first", x.pin(36, 5), NONE);
        due("pin(-1, 0)", x.pin(-1, 0), NONE);
        due("pin(0, 2)", x.pin(0, 2), BAD);
        due("pin(0, -1)", x.pin(0, -1), BAD);
        for (int n : NEVER) {
            due("pin(" + n + ", 1)", x.pin(n, 1), NONE);
            due("pin(0, " + n + ")", x.pin(0, n), BAD);
        }
        due("no pin by refused calls", x.told(5), 0);
    }

    private static void set() {
        GrainGrower x = new GrainGrower();
        due("HEAT 99", x.set(0, 99), 0);
        due("HEAT 0", x.set(0, 0), 99);
        due("HEAT 100", x.set(0, 100), BAD);
        due("HEAT -1", x.set(0, -1), BAD);
        for (int what = 1; what <= 2; what++) {
            due("2", x.set(what, 2), 0);
            due("1", x.set(what, 1), 2);
            due("3", x.set(what, 3), BAD);
            due("-1", x.set(what, -1), BAD);
            due("0", x.set(what, 0), 1);
        }
        due("set(3, 0)", x.set(3, 0), NONE);
        due("set(-1, 500)", x.set(-1, 500), NONE);
        for (int n : NEVER) {
            due("set(" + n + ", 1)", x.set(n, 1), NONE);
            due("set(0, " + n + ")", x.set(0, n), BAD);
        }
        x.set(0, 34);
        x.set(1, 1);
        x.set(2, 2);
        due("HEAT told", x.told(8), 34);
        due("NEAR told", x.told(9), 1);
        due("EDGES told", x.told(10), 2);
    }

    private static void price() {
        GrainGrower x = new GrainGrower();
        due("price(0, 9)", x.price(0, 9), 1);
        due("price(1, 1)", x.price(1, 1), 9);
        due("price(1, 4)", x.price(1, 4), 11);
        due("price(2, 4)", x.price(2, 4), 14);
        due("price(2, 1)", x.price(2, 1), 24);
        due("price(3, 9)", x.price(3, 9), 21);
        due("price(3, 0)", x.price(3, 0), 39);
        due("price(0, 1)", x.price(0, 1), 30);
        int[][] bad = {{0, 0}, {0, 10}, {1, 0}, {1, 5}, {2, 0}, {2, 5}, {3, -1}, {3, 10}};
        for (int[] b : bad) {
            due("price(" + b[0] + ", " + b[1] + ")", x.price(b[0], b[1]), BAD);
        }
        due("price(4, 1)", x.price(4, 1), NONE);
        due("price(-1, 99): the kind first", x.price(-1, 99), NONE);
        for (int n : NEVER) {
            due("price(" + n + ", 1)", x.price(n, 1), NONE);
            for (int kind = 0; kind < 4; kind++) {
                due("price(" + kind + ", " + n + ")", x.price(kind, n), BAD);
            }
        }
        due("PRICE told", x.told(11), 1);
    }

    private static void seed() {
        GrainGrower x = new GrainGrower();
        due("seed(MIN)", x.seed(MIN), 1);
        due("seed(MAX)", x.seed(MAX), MIN);
        due("seed(-1)", x.seed(-1), MAX);
        due("seed(0)", x.seed(0), -1);
        due("seed(7)", x.seed(7), 0);
        due("seed(1)", x.seed(1), 7);
    }

    /** From SEED 1 the first DRAW is 16838, and SEED is 1103527590 then. */
    private static void change() {
        GrainGrower x = new GrainGrower();
        due("change(36, 9)", x.change(36, 9), NONE);
        due("change(-1, 0)", x.change(-1, 0), NONE);
        due("change(0, 8)", x.change(0, 8), BAD);
        due("change(0, -1)", x.change(0, -1), BAD);
        for (int n : NEVER) {
            due("change(" + n + ", 0)", x.change(n, 0), NONE);
            due("change(0, " + n + ")", x.change(0, n), BAD);
        }
        due("to the mark it has", x.change(0, 0), 0);
        due("MORE 2 without HEAT", x.change(0, 1), 0);
        x.set(0, 1);
        due("HEAT 1 by MORE 2 is 0", x.change(0, 1), 0);
        due("no DRAW until here", x.seed(1), 1);
        x.set(0, 76);
        due("38 is not less than 38", x.change(0, 1), 0);
        due("one DRAW", x.seed(1), 1103527590);
        x.set(0, 78);
        x.pin(0, 1);
        due("a pin", x.change(0, 1), 0);
        due("a pin: no DRAW", x.seed(1), 1);
        x.pin(0, 0);
        due("to the mark it has, at HEAT", x.change(0, 0), 0);
        due("the mark it has: no DRAW", x.seed(1), 1);
        due("38 is less than 39", x.change(0, 1), 1);
        due("it GOES", x.of(0, 0), 1);
        due("one DRAW", x.seed(1), 1103527590);
        due("MORE -2", x.change(0, 0), 1);
        due("it GOES back", x.of(0, 0), 0);
        due("MORE below 0: no DRAW", x.seed(1), 1);
        x.mark(1, 2);
        due("MORE 0", x.change(0, 2), 1);
        due("MORE 0: no DRAW", x.seed(1), 1);
        due("cut: 99 by 4 is 24", drawnAt(14, 99), 0);
    }

    private static int drawnAt(int cell, int heat) {
        GrainGrower x = new GrainGrower();
        x.set(0, heat);
        return x.change(cell, 1);
    }

    /** From SEED 1: DRAWS 16838, 5758, 10113: cell 26, direction 2, then 13 below 100. */
    private static void tries() {
        GrainGrower x = new GrainGrower();
        for (int n : new int[] {-1, 201, MAX, MIN}) {
            due("tries(" + n + ")", x.tries(n), BAD);
        }
        due("tries(0)", x.tries(0), 0);
        due("no DRAW", x.seed(1), 1);
        x.mark(32, 3);
        due("MORE 2 without HEAT", x.tries(1), 0);
        due("two DRAWS", x.seed(1), -1770082073);
        x.set(0, 26);
        due("13 is not less than 13", x.tries(1), 0);
        due("three DRAWS", x.seed(1), 662824084);
        x.set(0, 28);
        due("13 is less than 14", x.tries(1), 1);
        due("the first one changes", x.of(26, 0), 3);
        due("the other one doesn't", x.of(32, 0), 3);
        due("three DRAWS", x.seed(0), 662824084);
        x.mark(0, 5);
        due("cell 0, up: nothing is there", x.tries(1), 0);
        due("two DRAWS", x.seed(1), -740551042);
        due("it stays", x.of(0, 0), 5);
        GrainGrower one = new GrainGrower();
        GrainGrower many = new GrainGrower();
        one.mark(14, 3);
        many.mark(14, 3);
        one.set(0, 90);
        many.set(0, 90);
        int went = 0;
        for (int i = 0; i < 200; i++) {
            went += one.tries(1);
        }
        due("200 one by one", went, many.tries(200));
        dueMarks("200 tries", one, Lattices.marksOf(many));
        due("the same SEED", one.seed(0), many.seed(0));
    }

    private static void cool() {
        GrainGrower x = Lattices.of(2, 2, "53 25");
        for (int n : new int[] {-1, 31, MAX, MIN}) {
            due("cool(" + n + ")", x.cool(n), BAD);
        }
        due("cool(0)", x.cool(0), 0);
        dueMarks("cool(0)", x, "53 25");
        due("by what all have by then", x.cool(1), 3);
        dueMarks("of several the least mark", x, "22 22");
        x = Lattices.of(2, 3, "221 000");
        x.set(0, 99);
        due("one change in the first", x.cool(1), 1);
        dueMarks("the first round", x, "220 000");
        due("one in the second", x.cool(1), 1);
        dueMarks("the second round", x, "200 000");
        due("one in the third", x.cool(1), 1);
        due("none in the fourth", x.cool(1), 0);
        dueMarks("all rounds", x, "000 000");
        due("no DRAW", x.seed(1), 1);
        x = Lattices.of(2, 3, "221 000");
        due("cool(2)", x.cool(2), 2);
        due("cool(30)", x.cool(30), 1);
        x = Lattices.of(2, 2, "53 25");
        x.pin(0, 1);
        x.pin(3, 1);
        due("pins stay, 1 and 2 become 5", x.cool(30), 2);
        dueMarks("pins", x, "55 55");
        x = Lattices.of(2, 2, "01 00");
        x.pin(1, 1);
        due("equal is not less", x.cool(5), 0);
        x = Lattices.of(2, 2, "01 30");
        x.price(2, 1);
        x.pin(0, 1);
        x.pin(1, 1);
        x.pin(2, 1);
        // 2 would cost nothing between 1 and 3, but it is no mark beside.
        due("0 beside 1 and 3", x.of(3, 2), 2);
        due("only marks beside are taken", x.cool(1), 0);
        x = Lattices.of(2, 2, "17 16");
        x.price(2, 1);
        x.pin(0, 1);
        x.pin(1, 1);
        x.pin(2, 1);
        // So 0 would between 7 and 1.
        due("6 beside 7 and 1", x.of(3, 2), 2);
        due("0 is no mark beside either", x.cool(1), 0);
        x = Lattices.of(2, 2, "12 03");
        x.price(2, 1);
        x.pin(0, 1);
        x.pin(1, 1);
        x.pin(3, 1);
        x.set(1, 1);
        x.set(1, 0);
        due("2 was beside by EIGHT, but is no more", x.cool(1), 0);
        x.set(1, 1);
        due("by EIGHT it is taken", x.cool(1), 1);
        due("2", x.of(2, 0), 2);
    }

    private static void feed() {
        GrainGrower x = new GrainGrower();
        for (int n : new int[] {-1, 128, 255, MAX, MIN}) {
            due("feed(" + n + ")", x.feed(n), BAD);
        }
        for (int i = 1; i <= 100; i++) {
            due("sign " + i, x.feed(i == 1 ? 0 : i == 2 ? 127 : 'n'), i);
        }
        due("the 101st", x.feed('n'), FULL);
        due("a bad one, though it is full", x.feed(128), BAD);
        due("it has 100", x.count(3), 100);
        due("read", x.read(), -10);
        due("the first again", x.feed('n'), 1);
    }

    private static void readFaults() {
        String twelve = "n0;n0;n0;n0;n0;n0;n0;n0;n0;n0;n0;n0";
        GrainGrower x = new GrainGrower();
        String[] texts = {"", ";", "x", "S66", " s66", "s", "s6", "s6x", "s 66", "s66 ", "s66;", "s66;;",
            "s666", "s66;x", "m", "m0", "m00", "m0000", "m00a", "f", "f00", "f0000", "f00000;", "f000000",
            "p0", "p000", "n", "n00", "e", "e00", "c", "c0", "c000", "h", "h9", "h999", "n/", "n:", "h-1",
            "1", "s66,n0", twelve + ";", twelve + ";n0", twelve + "x", "n0\n", "n0;h5"};
        int[] faults = {0, 0, 0, 0, 0, 1, 2, 2, 1, 3, 4, 4,
            3, 4, 1, 2, 3, 4, 3, 1, 3, 5, 7, 6,
            2, 3, 1, 2, 1, 2, 1, 2, 3, 1, 2, 3, 1, 1, 1,
            0, 3, 35, 35, 35, 2, 5};
        for (int i = 0; i < texts.length; i++) {
            due("read of " + texts[i], Lattices.reading(x, texts[i]), -10 - faults[i]);
            due("the text is empty behind " + texts[i], x.count(3), 0);
        }
        due("twelve", Lattices.reading(x, twelve), 12);
        due("empty behind it", x.count(3), 0);
        StringBuilder full = new StringBuilder();
        for (int i = 0; i < 12; i++) {
            full.append(i == 0 ? "" : ";").append("f00000");
        }
        due("83 signs", Lattices.reading(x, full.toString()), 12);
        x.mark(0, 3);
        due("nothing is done by a fault", Lattices.reading(x, "s22;h50;x"), -18);
        due("the size is as it was", x.told(6), 6);
        due("the heat is as it was", x.told(8), 0);
        due("the mark is as it was", x.of(0, 0), 3);
    }

    private static void readClauses() {
        GrainGrower x = new GrainGrower();
        due("all kinds", Lattices.reading(x, "s34;m071;p07;n1;e2;c39;h42"), 7);
        due("HIGH", x.told(6), 3);
        due("WIDE", x.told(7), 4);
        due("mark of 7", x.of(7, 0), 1);
        due("pin of 7", x.of(7, 1), 1);
        due("NEAR", x.told(9), 1);
        due("EDGES", x.told(10), 2);
        due("PRICE", x.told(11), 39);
        due("HEAT", x.told(8), 42);
        due("refused ones aren't done", Lattices.reading(x, "s17;s71;s99;m072;m120;m008;n3;e9;c05;c41;c00;p12"), 1);
        due("c05 alone was done", x.told(11), 5);
        due("of the size as it is", x.told(6), 3);
        due("its mark stays under the pin", x.of(7, 0), 1);
        due("p turns a pin off", Lattices.reading(x, "p07;m072;p07;m073"), 3);
        due("marked in between", x.of(7, 0), 2);
        due("and on again", x.of(7, 1), 1);
        due("s takes marks and pins", Lattices.reading(x, "s34"), 1);
        due("no pin", x.told(5), 0);
        due("no mark", x.share(0), 12);
        x = Lattices.of(3, 4, "0000 0000 0000");
        x.pin(6, 1);
        due("a block", Lattices.reading(x, "f01105"), 1);
        dueMarks("a block without its pin", x, "0550 0500 0550");
        due("a block of one", Lattices.reading(x, "f03037"), 1);
        dueMarks("a block of one", x, "0557 0500 0550");
        due("the whole", Lattices.reading(x, "f00112"), 1);
        dueMarks("the whole", x, "2222 2202 2222");
        due("a row less, a column less", Lattices.reading(x, "f04003;f05013;f11033;f01043;f05083"), 0);
        due("no cell, no cell, no mark", Lattices.reading(x, "f00123;f12123;f00118"), 0);
        due("only a pin within: it is done", Lattices.reading(x, "f06061"), 1);
        dueMarks("nothing of these", x, "2222 2202 2222");
        due("cells by the size that a clause ahead told", Lattices.reading(x, "s23;f01051;m060"), 2);
        dueMarks("f01051 of 2 by 3", x, "011 011");
        due("a later one sees the earlier", Lattices.reading(x, "m001;p00;m002;p00;m003"), 4);
        due("the last mark", x.of(0, 0), 3);
        due("h99", Lattices.reading(x, "h99"), 1);
        due("h00", Lattices.reading(x, "h00"), 1);
        due("HEAT 0", x.told(8), 0);
        due("a refused one alone", Lattices.reading(x, "s11"), 0);
    }

    private static void of() {
        GrainGrower x = Lattices.of(2, 3, "112 001");
        x.pin(2, 1);
        int[] energies = {1, 2, 2, 1, 2, 2};
        int[] grains = {0, 0, 1, 2, 2, 3};
        for (int c = 0; c < 6; c++) {
            due("mark", x.of(c, 0), "112001".charAt(c) - '0');
            due("pin", x.of(c, 1), c == 2 ? 1 : 0);
            due("energy of " + c, x.of(c, 2), energies[c]);
            due("grain of " + c, x.of(c, 3), grains[c]);
        }
        due("no cell 6", x.of(6, 0), NONE);
        due("no cell -1", x.of(-1, 0), NONE);
        due("no what 4", x.of(0, 4), NONE);
        due("no what -1", x.of(0, -1), NONE);
        for (int n : NEVER) {
            due("of(" + n + ", 3)", x.of(n, 3), NONE);
            due("of(0, " + n + ")", x.of(0, n), NONE);
        }
        x.set(2, 1);
        due("twice the same one by ROUND, up and down", x.of(2, 2), 4);
        due("by ROUND", x.of(0, 2), 3);
        x.set(1, 1);
        x.set(2, 0);
        due("5 is of the grain of 1 by EIGHT", x.of(5, 3), 0);
    }

    private static void dueBeside(GrainGrower x, int cell, int... want) {
        for (int d = 0; d < want.length; d++) {
            due("beside(" + cell + ", " + d + ")", x.beside(cell, d), want[d]);
        }
        due("no direction " + want.length, x.beside(cell, want.length), NONE);
        due("no direction -1", x.beside(cell, -1), NONE);
    }

    private static void beside() {
        GrainGrower x = Lattices.of(3, 4, "");
        dueBeside(x, 5, 1, 6, 9, 4);
        dueBeside(x, 0, NOWHERE, 1, 4, NOWHERE);
        dueBeside(x, 11, 7, NOWHERE, NOWHERE, 10);
        x.set(1, 1);
        dueBeside(x, 5, 1, 6, 9, 4, 2, 10, 8, 0);
        dueBeside(x, 3, NOWHERE, NOWHERE, 7, 2, NOWHERE, NOWHERE, 6, NOWHERE);
        dueBeside(x, 8, 4, 9, NOWHERE, NOWHERE, 5, NOWHERE, NOWHERE, NOWHERE);
        x.set(1, 2);
        dueBeside(x, 5, 1, 6, 9, 4, 2, 8);
        dueBeside(x, 0, NOWHERE, 1, 4, NOWHERE, NOWHERE, NOWHERE);
        x.set(2, 1);
        dueBeside(x, 0, 8, 1, 4, 3, 9, 7);
        x.set(1, 1);
        dueBeside(x, 0, 8, 1, 4, 3, 9, 5, 7, 11);
        dueBeside(x, 11, 7, 8, 3, 10, 4, 0, 2, 6);
        x.set(2, 2);
        dueBeside(x, 0, 8, 1, 4, 11, 9, 5, 3, 7);
        dueBeside(x, 11, 7, 0, 3, 10, 8, 4, 2, 6);
        dueBeside(x, 3, 11, 4, 7, 2, 0, 8, 6, 10);
        dueBeside(x, 5, 1, 6, 9, 4, 2, 10, 8, 0);
        x.set(1, 2);
        dueBeside(x, 4, 0, 5, 8, 3, 1, 7);
        x.set(1, 0);
        dueBeside(x, 7, 3, 8, 11, 6);
        x.size(2, 2);
        dueBeside(x, 3, 1, 0, 1, 2);
        x.set(2, 1);
        dueBeside(x, 3, 1, 2, 1, 2);
        due("no cell 4", x.beside(4, 0), NONE);
        due("no cell -1", x.beside(-1, 0), NONE);
        for (int n : NEVER) {
            due("beside(" + n + ", 0)", x.beside(n, 0), NONE);
            due("beside(0, " + n + ")", x.beside(0, n), NONE);
        }
    }

    private static void costs() {
        GrainGrower x = new GrainGrower();
        dueCosts(x, 0, 1, 1, 1, 1, 1, 1, 1);
        x.price(0, 9);
        dueCosts(x, 0, 9, 9, 9, 9, 9, 9, 9);
        x.price(1, 4);
        dueCosts(x, 0, 1, 2, 3, 4, 3, 2, 1);
        x.price(1, 2);
        dueCosts(x, 0, 1, 2, 2, 2, 2, 2, 1);
        x.price(1, 1);
        dueCosts(x, 0, 1, 1, 1, 1, 1, 1, 1);
        x.price(2, 4);
        dueCosts(x, 0, 2, 2, 2, 0, 2, 2, 2);
        x.price(2, 1);
        dueCosts(x, 0, 0, 2, 2, 2, 2, 2, 0);
        x.price(3, 0);
        dueCosts(x, 0, 0, 1, 0, 1, 0, 1, 0);
        x.price(3, 9);
        dueCosts(x, 0, 9, 1, 9, 1, 9, 1, 9);
        due("no mark 8", x.costs(8, 0), NONE);
        due("no mark 8", x.costs(0, 8), NONE);
        due("no mark -1", x.costs(-1, 0), NONE);
        due("no mark -1", x.costs(0, -1), NONE);
        for (int n : NEVER) {
            due("costs(" + n + ", 0)", x.costs(n, 0), NONE);
            due("costs(0, " + n + ")", x.costs(0, n), NONE);
        }
    }

    /** What two marks cost, by how far the second is ahead of the first around the ring of eight. */
    private static void dueCosts(GrainGrower x, int... byDistance) {
        for (int one = 0; one < 8; one++) {
            for (int other = 0; other < 8; other++) {
                due("costs(" + one + ", " + other + ")", x.costs(one, other), byDistance[(other - one + 8) % 8]);
            }
        }
    }

    private static void more() {
        GrainGrower x = new GrainGrower();
        due("a corner", x.more(0, 1), 1002);
        due("an edge", x.more(1, 1), 1003);
        due("inside", x.more(7, 1), 1004);
        due("its own", x.more(7, 0), 1000);
        x.mark(7, 3);
        x.pin(7, 1);
        due("below 0, even with a pin", x.more(7, 0), 996);
        due("another that is unlike too", x.more(7, 5), 1000);
        due("beside it", x.more(8, 3), 1002);
        x.set(1, 1);
        x.price(0, 9);
        due("eight directions", x.more(7, 0), 928);
        due("no cell 36", x.more(36, 9), NONE);
        due("no cell -1", x.more(-1, 0), NONE);
        due("no mark 8", x.more(0, 8), BAD);
        due("no mark -1", x.more(0, -1), BAD);
        for (int n : NEVER) {
            due("more(" + n + ", 0)", x.more(n, 0), NONE);
            due("more(0, " + n + ")", x.more(0, n), BAD);
        }
        x = Lattices.of(2, 2, "13 30");
        x.price(2, 1);
        due("2 is a twin of 1 and 3", x.more(3, 2), 996);
    }

    private static void told() {
        GrainGrower x = Lattices.of(3, 4, "0011 2031 2231");
        x.pin(0, 1);
        x.pin(11, 1);
        x.set(0, 17);
        x.price(0, 2);
        // Unlike pairs: 1, 3, 2 along the rows, 2, 1 between them: 9 at a price of 2.
        int[] want = {18, 4, 4, 1, 0, 2, 3, 4, 17, 0, 0, 2};
        for (int what = 0; what < want.length; what++) {
            due("told(" + what + ")", x.told(what), want[what]);
        }
        due("told(12)", x.told(12), NONE);
        due("told(-1)", x.told(-1), NONE);
        for (int n : NEVER) {
            due("told(" + n + ")", x.told(n), NONE);
        }
        x = Lattices.of(2, 4, "0011 0022");
        due("three grains", x.told(1), 3);
        due("greatest", x.told(2), 4);
        due("the first with it", x.told(3), 0);
        due("no islands: each has two neighbours", x.told(4), 0);
        x = Lattices.of(2, 4, "0011 0011");
        due("the first of two as great", x.told(3), 0);
        x = Lattices.of(2, 4, "1000 0000");
        due("the second is the greatest", x.told(3), 1);
        due("each of two grains is an island", x.told(4), 2);
        x = Lattices.of(3, 3, "111 101 111");
        due("within a ring", x.told(4), 2);
        x = Lattices.of(2, 3, "012 012");
        due("the outer two are islands", x.told(4), 2);
        x.set(2, 1);
        due("by ROUND none is", x.told(4), 0);
        due("by ROUND the walls count in each direction", x.told(0), 6);
        x = Lattices.of(2, 2, "01 10");
        due("four grains of FOUR", x.told(1), 4);
        x.set(1, 2);
        due("up right hangs together by SIX", x.told(1), 3);
        x.set(1, 1);
        due("both do by EIGHT", x.told(1), 2);
        due("NEAR", x.told(9), 1);
    }

    private static void share() {
        GrainGrower x = Lattices.of(2, 3, "012 117");
        int[] want = {1, 3, 1, 0, 0, 0, 0, 1};
        for (int v = 0; v < 8; v++) {
            due("share(" + v + ")", x.share(v), want[v]);
        }
        due("share(8)", x.share(8), NONE);
        due("share(-1)", x.share(-1), NONE);
        for (int n : NEVER) {
            due("share(" + n + ")", x.share(n), NONE);
        }
    }

    private static void grain() {
        GrainGrower x = Lattices.of(3, 3, "110 200 110");
        x.pin(0, 1);
        x.pin(4, 1);
        x.pin(5, 1);
        // Grains: 0 the ones above, 1 the zeros, 2 the two, 3 the ones below.
        int[][] want = {{0, 1, 2, 3, 2, 1}, {2, 0, 4, 5, 3, 2}, {3, 2, 1, 3, 3, 0}, {6, 1, 2, 3, 2, 0}};
        for (int g = 0; g < 4; g++) {
            for (int what = 0; what < 6; what++) {
                due("grain(" + g + ", " + what + ")", x.grain(g, what), want[g][what]);
            }
        }
        due("no grain 4", x.grain(4, 0), NONE);
        due("no grain -1", x.grain(-1, 0), NONE);
        due("no what 6", x.grain(0, 6), NONE);
        due("no what -1", x.grain(0, -1), NONE);
        for (int n : NEVER) {
            due("grain(" + n + ", 0)", x.grain(n, 0), NONE);
            due("grain(0, " + n + ")", x.grain(0, n), NONE);
        }
        x.set(2, 1);
        due("by ROUND the ones are one grain", x.grain(0, 2), 4);
        due("and there are three grains", x.grain(3, 0), NONE);
        due("RIM by ROUND", x.grain(2, 3), 4);
        x = Lattices.of(6, 6, "012301 234523 456745 670167 012301 234523");
        due("no two alike beside: 36 grains", x.told(1), 36);
        due("the last of 36", x.grain(35, 0), 35);
        due("the greatest of 36", x.told(2), 1);
        due("the first of 36", x.told(3), 0);
        due("no islands", x.told(4), 0);
        due("large of 36", x.large(1), 36);
        due("walls among 36", x.walls(0, 35), 10);
        Lattices.reading(x, "f00350");
        due("one is left", x.large(1), 1);
        due("no island is left", x.told(4), 0);
    }

    private static void large() {
        GrainGrower x = Lattices.of(2, 4, "0012 0032");
        int[] want = {4, 2, 1, 1, 0};
        for (int n = 1; n <= 5; n++) {
            due("large(" + n + ")", x.large(n), want[n - 1]);
        }
        due("large(36)", x.large(36), 0);
        due("large(36) of all", new GrainGrower().large(36), 1);
        due("large(0)", x.large(0), BAD);
        due("large(37)", x.large(37), BAD);
        due("large(-1)", x.large(-1), BAD);
        for (int n : NEVER) {
            due("large(" + n + ")", x.large(n), BAD);
        }
    }

    private static void meets() {
        GrainGrower x = Lattices.of(3, 3, "000 000 001");
        due("one corner: three squares meet one", x.meets(0, 1), 3);
        due("the first of them", x.meets(1, 1), 0);
        due("one square meets two", x.meets(0, 2), 1);
        due("squares have numbers of their own", x.meets(1, 2), 3);
        due("none meets three", x.meets(0, 3), 0);
        due("none of them", x.meets(1, 3), NOWHERE);
        x.set(2, 1);
        due("not across the edges", x.meets(0, 2), 1);
        due("none in a lattice of all one mark", new GrainGrower().meets(1, 2), NOWHERE);
        x = Lattices.of(2, 2, "01 23");
        due("four", x.meets(0, 4), 1);
        due("the first with four", x.meets(1, 4), 0);
        x = Lattices.of(2, 2, "01 10");
        due("two marks, but four grains", x.meets(0, 4), 1);
        x.set(1, 1);
        due("two grains by EIGHT", x.meets(0, 2), 1);
        x.set(1, 2);
        due("three grains by SIX", x.meets(0, 3), 1);
        x = Lattices.of(2, 3, "010 000");
        due("0 on both sides is one grain", x.meets(0, 2), 2);
        due("side 2", x.meets(2, 9), NONE);
        due("side -1", x.meets(-1, 1), NONE);
        due("n 0", x.meets(0, 0), BAD);
        due("n 5", x.meets(1, 5), BAD);
        for (int n : NEVER) {
            due("meets(" + n + ", 1)", x.meets(n, 1), NONE);
            due("meets(0, " + n + ")", x.meets(0, n), BAD);
        }
    }

    private static void walls() {
        GrainGrower x = Lattices.of(4, 3, "000 111 000 222");
        due("one grain", x.walls(0, 2), 0);
        due("the same cell", x.walls(5, 5), 0);
        due("one", x.walls(0, 3), 1);
        due("two, though the mark is the same", x.walls(0, 6), 2);
        due("three", x.walls(0, 11), 3);
        due("three back", x.walls(11, 0), 3);
        x.set(2, 1);
        due("one by ROUND", x.walls(0, 11), 1);
        x = Lattices.of(3, 3, "010 111 010");
        due("from corner to corner", x.walls(0, 8), 2);
        x = Lattices.of(2, 2, "01 23");
        due("by FOUR", x.walls(0, 3), 2);
        x.set(1, 1);
        due("by EIGHT", x.walls(0, 3), 1);
        x.set(1, 2);
        due("by SIX not down right", x.walls(0, 3), 2);
        due("by SIX up right", x.walls(2, 1), 1);
        x = Lattices.of(6, 6, "012345 123456 234567 345670 456701 567012");
        due("ten walls", x.walls(0, 35), 10);
        due("no cell 36", x.walls(36, 0), NONE);
        due("no cell 36", x.walls(0, 36), NONE);
        due("no cell -1", x.walls(-1, 0), NONE);
        for (int n : NEVER) {
            due("walls(" + n + ", 0)", x.walls(n, 0), NONE);
            due("walls(0, " + n + ")", x.walls(0, n), NONE);
        }
    }

    private static void gone() {
        GrainGrower x = Lattices.of(2, 3, "221 000");
        due("the 1 goes first", x.gone(2), 1);
        due("then both 2", x.gone(0), 3);
        due("the grain counts, not the cell", x.gone(1), 3);
        due("the zeros never", x.gone(3), NOWHERE);
        x.pin(0, 1);
        due("a pin holds it", x.gone(0), NOWHERE);
        due("by another of its grain too", x.gone(1), NOWHERE);
        x = Lattices.of(3, 3, "210 200 121");
        due("its mark lives on elsewhere", x.gone(7), 2);
        x.cool(2);
        dueMarks("two rounds", x, "200 200 200");
        due("no cell 9", x.gone(9), NONE);
        due("no cell -1", x.gone(-1), NONE);
        for (int n : NEVER) {
            due("gone(" + n + ")", x.gone(n), NONE);
        }
        due("late", Lattices.coolingFor(29).gone(11), 16);
        due("behind 30", Lattices.lastingFor(30).gone(3), 30);
        due("behind 31, which is too late", Lattices.lastingFor(31).gone(2), NOWHERE);
        x = Lattices.lastingFor(31);
        x.cool(30);
        due("one of its two cells has its mark behind 30", x.of(2, 0) == 2 || x.of(3, 0) == 2 ? 1 : 0, 1);
        x.cool(1);
        due("none behind 31", x.of(2, 0) == 2 || x.of(3, 0) == 2 ? 1 : 0, 0);
    }

    private static void cold() {
        GrainGrower x = Lattices.of(2, 3, "221 000");
        due("three rounds change something", x.cold(0), 3);
        due("nothing is left", x.cold(1), 0);
        x.pin(0, 1);
        due("two rounds", x.cold(0), 2);
        due("a pinned corner is left", x.cold(1), 2);
        x = new GrainGrower();
        due("none", x.cold(0), 0);
        x.mark(14, 3);
        x.mark(15, 3);
        x.mark(20, 3);
        x.mark(21, 3);
        due("a block of four rests", x.cold(0), 0);
        due("its border", x.cold(1), 8);
        due("what 2", x.cold(2), NONE);
        due("what -1", x.cold(-1), NONE);
        for (int n : NEVER) {
            due("cold(" + n + ")", x.cold(n), NONE);
        }
        due("29", Lattices.coolingFor(29).cold(0), 29);
        due("none of 30 rests, by the 31st", Lattices.coolingFor(30).cold(0), NOWHERE);
        due("none of 30 rests", Lattices.coolingFor(31).cold(0), NOWHERE);
        GrainGrower behind = Lattices.coolingFor(31);
        int border = behind.cold(1);
        due("30 rounds change", behind.cool(30) >= 30 ? 1 : 0, 1);
        due("border behind 30", border, behind.told(0));
        due("the 31st changes", behind.cool(1) > 0 ? 1 : 0, 1);
        due("it would be another one", behind.told(0) == border ? 1 : 0, 0);
    }

    private static void best() {
        GrainGrower x = new GrainGrower();
        for (int what = 0; what < 3; what++) {
            due("none", x.best(what), NOWHERE);
        }
        due("what 3", x.best(3), NONE);
        due("what -1", x.best(-1), NONE);
        for (int n : NEVER) {
            due("best(" + n + ")", x.best(n), NONE);
        }
        x.mark(7, 3);
        x.mark(28, 3);
        dueBest("of several the least cell", x, 7, 0, 4);
        x.pin(7, 1);
        dueBest("not where a pin is", x, 28, 0, 4);
        x.mark(0, 5);
        dueBest("the least MORE, not the least cell", x, 28, 0, 4);
        x.pin(28, 1);
        dueBest("the corner then", x, 0, 0, 2);
        x.pin(0, 1);
        dueBest("none without pin", x, NOWHERE, NOWHERE, NOWHERE);
        x = Lattices.of(2, 2, "53 20");
        dueBest("of several the least mark", x, 0, 2, 1);
        x = Lattices.of(2, 2, "13 30");
        x.price(2, 1);
        // 0 is a twin of 1; for the first cell 2 and 4 are twins of 3, for the last one too.
        dueBest("marks that none beside has count too", x, 0, 2, 4);
        x = Lattices.of(2, 2, "00 01");
        x.set(2, 1);
        dueBest("by ROUND each wall counts twice", x, 3, 0, 4);
        int border = x.told(0);
        x.mark(x.best(0), x.best(1));
        due("by so much BORDER is less then", border - x.told(0), 4);
    }

    private static void dueBest(String what, GrainGrower x, int cell, int mark, int less) {
        due(what + ": cell", x.best(0), cell);
        due(what + ": mark", x.best(1), mark);
        due(what + ": less", x.best(2), less);
    }

    private static void see() {
        GrainGrower x = new GrainGrower();
        due("clearing nothing", x.see(-1, 99), 0);
        due("no cell 36", x.see(36, 9), NONE);
        due("no cell -2", x.see(-2, 0), NONE);
        due("no mark 8", x.see(0, 8), BAD);
        due("no mark -1", x.see(0, -1), BAD);
        for (int n : NEVER) {
            due("see(" + n + ", 0)", x.see(n, 0), NONE);
            due("see(0, " + n + ")", x.see(0, n), BAD);
        }
        for (int i = 1; i <= 6; i++) {
            due("row " + i, x.see(i == 1 ? 35 : 0, 7), i);
        }
        due("the seventh", x.see(0, 0), FULL);
        due("NONE ahead of FULL", x.see(36, 0), NONE);
        due("BAD ahead of FULL", x.see(0, 8), BAD);
        due("six", x.count(0), 6);
        due("none then", x.see(-1, -1), 0);
        due("count", x.count(0), 0);
        due("the first again", x.see(0, 0), 1);
    }

    private static void fits() {
        GrainGrower x = Lattices.of(2, 2, "10 00");
        due("nothing seen: all fit", x.fits(60, 0), 100);
        due("the least of all", x.fits(60, 1), 0);
        x.see(0, 1);
        due("as it is", x.fits(0, 0), 100);
        x.see(3, 0);
        due("both as they are", x.fits(0, 0), 100);
        x.see(-1, 0);
        x.see(0, 0);
        due("behind 0 tries it is not so", x.fits(0, 0), 0);
        due("the least of none", x.fits(0, 1), NOWHERE);
        // Cell 0 by DRAW, then right or down: 12 of the seeds, the least is 2.
        due("behind one", x.fits(1, 0), 12);
        due("the least", x.fits(1, 1), 2);
        x.pin(0, 1);
        due("never with a pin", x.fits(1, 0), 0);
        x.pin(0, 0);
        x.see(-1, 0);
        x.see(1, 1);
        due("cell 1 to its left", x.fits(1, 0), 6);
        due("the least", x.fits(1, 1), 23);
        x.seed(12345);
        due("SEED now does not matter", x.fits(1, 0), 6);
        x.see(0, 0);
        due("each of them must be so", x.fits(1, 0), 0);
        x = new GrainGrower();
        x.see(35, 0);
        due("cell 35", x.fits(5, 0), 100);
        x.size(5, 6);
        due("of a cell that is no more", x.fits(5, 0), 0);
        due("of a cell that is no more", x.fits(5, 1), NOWHERE);
        due("n 61 ahead of what", x.fits(61, 2), BAD);
        due("n -1", x.fits(-1, 0), BAD);
        due("what 2", x.fits(60, 2), NONE);
        due("what -1", x.fits(0, -1), NONE);
        for (int n : NEVER) {
            due("fits(" + n + ", 0)", x.fits(n, 0), BAD);
            due("fits(0, " + n + ")", x.fits(0, n), NONE);
        }
    }

    private static void dueOdds(String what, GrainGrower x, long above, long below) {
        due(what + ": above", x.odds(0), above);
        due(what + ": below", x.odds(1), below);
    }

    private static void odds() {
        GrainGrower x = Lattices.of(2, 3, "100 000");
        // Cell 0 by two directions, cell 3 by one (MORE 0), cell 1 by one (MORE 1): of 24.
        dueOdds("without HEAT", x, 1, 8);
        x.set(0, 50);
        dueOdds("HEAT 50", x, 7, 48);
        x.set(0, 99);
        dueOdds("HEAT 99", x, 133, 800);
        x.price(0, 4);
        dueOdds("99 by 4, cut", x, 27, 200);
        x.pin(0, 1);
        x.pin(3, 1);
        x.set(0, 3);
        dueOdds("3 by 4, cut", x, 0, 1);
        x = new GrainGrower();
        dueOdds("all alike", x, 0, 1);
        x = Lattices.of(2, 2, "01 23");
        x.set(2, 1);
        dueOdds("always", x, 1, 1);
        due("part 2", x.odds(2), NO);
        due("part -1", x.odds(-1), NO);
        for (int n : NEVER) {
            due("odds(" + n + ")", x.odds(n), NO);
        }
    }

    private static void mean() {
        GrainGrower x = new GrainGrower();
        due("36 above", x.mean(0), 36);
        due("1 below", x.mean(1), 1);
        x = Lattices.of(2, 5, "00112 00122");
        due("10 by 3", x.mean(0), 10);
        due("10 by 3", x.mean(1), 3);
        x = Lattices.of(2, 5, "00112 00322");
        due("10 by 4", x.mean(0), 5);
        due("10 by 4", x.mean(1), 2);
        due("part 2", x.mean(2), NO);
        due("part -1", x.mean(-1), NO);
        for (int n : NEVER) {
            due("mean(" + n + ")", x.mean(n), NO);
        }
    }

    private static void worth() {
        GrainGrower x = new GrainGrower();
        due("no border, one grain", x.worth(7), 7);
        due("0", x.worth(0), 0);
        due("-7", x.worth(-7), -7);
        due("the greatest whose square is a long", x.worth(3037000499L), 3037000499L);
        due("one more", x.worth(3037000500L), NO);
        due("the least", x.worth(-3037000499L), -3037000499L);
        due("one less", x.worth(-3037000500L), NO);
        due("2 to the 32nd", x.worth(1L << 32), NO);
        due("the greatest long", x.worth(Long.MAX_VALUE), NO);
        due("the least long", x.worth(Long.MIN_VALUE), NO);
        x.mark(0, 1);
        due("border 2, two grains", x.worth(3), 24);
        due("border 2, two grains", x.worth(-3), 12);
        due("twice the square is a long", x.worth(2147483647L), 9223372032559808512L);
        due("twice the square goes beyond", x.worth(2147483648L), NO);
        due("so it does, though the sum would not", x.worth(-2147483648L), NO);
        x.mark(0, 0);
        x.mark(1, 1);
        due("border 3: only the sum goes beyond", x.worth(1753413056L), NO);
        due("one less", x.worth(1753413055L), 9223372027840125185L);
        due("below 0 it does not", x.worth(-1753413056L), 9223372031346951296L);
    }

    private static void event() {
        GrainGrower x = new GrainGrower();
        due("clearing nothing", x.event(-1, 999), 0);
        int[] most = {60, 9, 35, 99, 99};
        for (int what = 0; what < 5; what++) {
            x.event(-1, 0);
            due("least of " + what, x.event(what, 0), 1);
            due("most of " + what, x.event(what, most[what]), 2);
            due("beyond of " + what, x.event(what, most[what] + 1), what == 2 ? NONE : BAD);
            due("below of " + what, x.event(what, -1), what == 2 ? NONE : BAD);
            due("MAX of " + what, x.event(what, MAX), what == 2 ? NONE : BAD);
        }
        due("what 5", x.event(5, 0), NONE);
        due("what -2", x.event(-2, 0), NONE);
        for (int n : NEVER) {
            due("event(" + n + ", 0)", x.event(n, 0), NONE);
        }
        for (int i = 3; i <= 8; i++) {
            due("row " + i, x.event(0, 1), i);
        }
        due("the ninth", x.event(0, 1), FULL);
        due("BAD ahead of FULL", x.event(0, 61), BAD);
        due("NONE ahead of FULL", x.event(2, 36), NONE);
        due("eight", x.count(1), 8);
        due("none then", x.event(-1, 0), 0);
        due("count", x.count(1), 0);
        x.size(2, 2);
        due("cell 4 of four", x.event(2, 4), NONE);
        due("cell 3 of four", x.event(2, 3), 1);
    }

    private static void dueAfter(String what, GrainGrower x, int border, int grains, int greatest) {
        due(what + ": border", x.after(0), border);
        due(what + ": grains", x.after(1), grains);
        due(what + ": greatest", x.after(2), greatest);
    }

    private static void after() {
        GrainGrower x = Lattices.of(2, 3, "221 000");
        dueAfter("no events", x, 4, 3, 3);
        x.event(1, 1);
        dueAfter("one round", x, 3, 2, 4);
        x.event(1, 1);
        dueAfter("two rounds", x, 2, 2, 5);
        x.event(-1, 0);
        x.event(1, 1);
        x.event(2, 0);
        x.event(1, 9);
        dueAfter("a pin after the first", x, 2, 2, 5);
        x.event(2, 0);
        x.event(1, 9);
        dueAfter("and off again", x, 0, 1, 6);
        x.event(-1, 0);
        for (int i = 0; i < 8; i++) {
            x.event(2, 0);
        }
        dueAfter("eight times on and off", x, 4, 3, 3);
        x.event(-1, 0);
        for (int i = 0; i < 3; i++) {
            x.event(1, 1);
        }
        dueAfter("three rounds", x, 0, 1, 6);
        x.event(-1, 0);
        x.event(0, 0);
        dueAfter("rows that are gone don't count", x, 4, 3, 3);
        x.event(-1, 0);
        x.pin(0, 1);
        x.event(1, 9);
        dueAfter("pinned", x, 2, 2, 5);
        x.event(-1, 0);
        x.event(2, 0);
        x.event(1, 9);
        dueAfter("the pin taken off", x, 0, 1, 6);
        due("it has the pin still", x.of(0, 1), 1);
        x = new GrainGrower();
        x.mark(32, 3);
        x.event(0, 1);
        dueAfter("one try without heat", x, 3, 2, 35);
        x.event(-1, 0);
        x.event(3, 28);
        x.event(0, 1);
        dueAfter("heat, then one try", x, 5, 2, 34);
        x.event(-1, 0);
        x.seed(77);
        x.event(3, 28);
        x.event(4, 1);
        x.event(0, 1);
        dueAfter("heat, the seed, then one try", x, 5, 2, 34);
        due("SEED stays", x.seed(1), 77);
        due("HEAT stays", x.told(8), 0);
        due("the mark stays", x.of(26, 0), 0);
        x.event(-1, 0);
        x.event(2, 35);
        x.event(1, 1);
        x.size(2, 3);
        x.mark(0, 1);
        dueAfter("a cell that is no more: nothing", x, 0, 1, 6);
        due("what 3", x.after(3), NONE);
        due("what -1", x.after(-1), NONE);
        for (int n : NEVER) {
            due("after(" + n + ")", x.after(n), NONE);
        }
    }

    private static void book() {
        GrainGrower x = new GrainGrower();
        due("clearing nothing", x.book(-1, 99), 0);
        due("no cell 36", x.book(36, 9), NONE);
        due("no cell -2", x.book(-2, 0), NONE);
        due("no mark 8", x.book(0, 8), BAD);
        due("no mark -1", x.book(0, -1), BAD);
        for (int n : NEVER) {
            due("book(" + n + ", 0)", x.book(n, 0), NONE);
            due("book(0, " + n + ")", x.book(0, n), BAD);
        }
        for (int i = 1; i <= 8; i++) {
            due("row " + i, x.book(i == 1 ? 35 : 0, 7), i);
        }
        due("the ninth", x.book(0, 0), FULL);
        due("NONE ahead of FULL", x.book(36, 0), NONE);
        due("BAD ahead of FULL", x.book(0, 8), BAD);
        due("eight", x.count(2), 8);
        due("empty then", x.book(-1, -1), 0);
        due("count", x.count(2), 0);
        due("the first again", x.book(0, 0), 1);
    }

    private static void looked() {
        GrainGrower x = new GrainGrower();
        due("an empty book", x.looked(), NOWHERE);
        x.book(35, 0);
        x.book(3, 2);
        x.book(4, 0);
        due("3 has another mark", x.looked(), 1);
        x.mark(3, 2);
        due("all are so", x.looked(), NOWHERE);
        x.mark(35, 1);
        x.mark(4, 1);
        due("the first of two", x.looked(), 0);
        x.mark(35, 0);
        due("the last", x.looked(), 2);
        x.size(2, 2);
        due("35 isn't there", x.looked(), 0);
    }

    private static void judge() {
        GrainGrower x = Lattices.of(2, 3, "012 345");
        due("nothing is there", x.judge(0, 0), 100);
        due("nothing is there", x.judge(0, -1), 100);
        due("tape 6", x.judge(6, 0), NONE);
        due("tape -1", x.judge(-1, 0), NONE);
        x.tape(0, 0, 10);
        for (int i = 0; i < 6; i++) {
            x.item(0, i + 2, i);
        }
        due("from 2 on", x.judge(0, 2), NOWHERE);
        due("from 0 on: 0 is so, 0 is not 1", x.judge(0, 0), 1);
        due("from 3 on", x.judge(0, 3), 0);
        x.item(0, 6, 7);
        due("cell 4 is otherwise", x.judge(0, 2), 4);
        x.item(0, 6, 4);
        due("place -1", x.judge(0, -1), 100);
        due("place MIN", x.judge(0, MIN), 100);
        due("place 10", x.judge(0, 10), 100);
        due("place MAX", x.judge(0, MAX), 100);
        due("from 9 on: one is so, then it ends", x.judge(0, 9), 101);
        x.tape(1, 0, 5);
        x.shift(0, 2, 1, 0, 5);
        due("five of six", x.judge(1, 0), 105);
        x.item(1, 4, 0);
        due("otherwise ahead of the end", x.judge(1, 0), 4);
        x.tape(1, 0, 0);
        due("a row of none", x.judge(1, 0), 100);
        x.tape(1, 0, 6);
        x.shift(0, 2, 1, 0, 6);
        due("just six", x.judge(1, 0), NOWHERE);
        x.item(1, 1, -255);
        due("by the lowest bits", x.judge(1, 0), NOWHERE);
        for (int sort = 1; sort < 5; sort++) {
            x.tape(2, sort, 10);
            due("sort " + sort, x.judge(2, 0), CAST);
            due("sort " + sort + " ahead of the place", x.judge(2, -1), CAST);
        }
        x.tape(2, -1, 0);
        due("nothing again", x.judge(2, 0), 100);
    }

    private static void image() {
        GrainGrower x = Lattices.of(2, 3, "221 000");
        due("border", x.image(), 4);
        dueMarks("image", x, "221 000");
        x.cool(1);
        due("taken anew", x.image(), 3);
        x.cool(9);
        due("undo to the last one", x.undo(), 3);
        dueMarks("undo", x, "220 000");
    }

    private static void undo() {
        GrainGrower x = new GrainGrower();
        due("there is none", x.undo(), STATE);
        x.size(3, 4);
        x.mark(5, 3);
        x.pin(6, 1);
        x.set(0, 21);
        x.set(1, 1);
        x.set(2, 2);
        x.price(1, 3);
        x.seed(99);
        x.see(5, 3);
        x.event(1, 2);
        x.event(0, 3);
        x.book(5, 3);
        x.book(6, 0);
        x.book(7, 1);
        x.feed('n');
        x.tape(0, 0, 3);
        int border = x.image();
        x.size(6, 6);
        x.pin(0, 1);
        x.set(0, 1);
        x.set(1, 2);
        x.set(2, 1);
        x.price(3, 7);
        x.seed(4);
        x.see(-1, 0);
        x.see(0, 6);
        x.event(-1, 0);
        x.event(4, 4);
        x.event(2, 0);
        x.event(3, 1);
        x.book(-1, 0);
        x.book(0, 6);
        x.feed('0');
        x.tape(0, 1, 5);
        for (int again = 0; again < 2; again++) {
            due("border", x.undo(), border);
            dueMarks("undo", x, "0000 0300 0000");
            due("pins", x.told(5), 1);
            due("pin of 6", x.of(6, 1), 1);
            int[] told = {21, 1, 2, 13};
            for (int k = 0; k < 4; k++) {
                due("told", x.told(8 + k), told[k]);
            }
            due("who is beside whom", x.beside(0, 7), 7);
            due("what is paid", x.costs(0, 4), 3);
            due("SEEN", x.count(0), 1);
            due("EVENTS", x.count(1), 2);
            due("the BOOK", x.count(2), 3);
            due("the BOOK's rows", x.looked(), 2);
            due("SEEN's row", x.fits(0, 0), 100);
            due("EVENTS' rows: 2 rounds take the 3", x.after(1), 1);
            due("THE TEXT is no part of it", x.count(3), 2);
            due("nor are tapes", x.item(0, 4, 1), 1);
            due("SEED", x.seed(5), 99);
            x.mark(5, 1);
            x.book(0, 0);
        }
    }

    private static void count() {
        GrainGrower x = new GrainGrower();
        x.see(0, 0);
        x.event(0, 0);
        x.event(0, 0);
        x.book(0, 0);
        x.book(0, 0);
        x.book(0, 0);
        Lattices.type(x, "abcd");
        for (int what = 0; what < 4; what++) {
            due("count(" + what + ")", x.count(what), what + 1);
        }
        due("count(4)", x.count(4), BAD);
        due("count(-1)", x.count(-1), BAD);
        for (int n : NEVER) {
            due("count(" + n + ")", x.count(n), BAD);
        }
    }

    private static void tape() {
        GrainGrower x = new GrainGrower();
        for (int sort = 0; sort < 5; sort++) {
            due("a row", x.tape(sort, sort, 60), 1);
            due("the last place", x.item(sort, 59, 1), 1);
            due("no more", x.item(sort, 60, 1), PLACE);
            due("the same anew", x.tape(sort, sort, 60), 1);
            due("all 0", x.peek(sort, 59), 0);
            due("61", x.tape(sort, sort, 61), BAD);
            due("-1", x.tape(sort, sort, -1), SIZE);
            due("MIN", x.tape(sort, sort, MIN), SIZE);
            due("it is as it was", x.peek(sort, 59), 0);
            due("none", x.tape(sort, sort, 0), 1);
            due("no place in none", x.peek(sort, 0), NO);
            due("nothing", x.tape(sort, -1, 77), 1);
            due("nothing is there", x.item(sort, 0, 1), NOTHING);
        }
        due("tape 6", x.tape(6, 9, -1), NONE);
        due("tape -1", x.tape(-1, 0, 0), NONE);
        due("sort 5 ahead of the size", x.tape(5, 5, -1), BAD);
        due("sort -2", x.tape(5, -2, 0), BAD);
        due("nothing, whatever n is", x.tape(5, -1, MIN), 1);
        for (int n : NEVER) {
            due("tape(" + n + ", 0, 0)", x.tape(n, 0, 0), NONE);
            due("tape(0, " + n + ", 0)", x.tape(0, n, 0), BAD);
        }
    }

    private static void item() {
        GrainGrower x = new GrainGrower();
        long[] values = {0x1234567890abcdefL, 128, -129, 32768, -32769, 1L << 31, 1L << 32, 256, 0, -1, NO};
        for (long v : values) {
            long[] want = {(byte) v, (short) v, (int) v, v, v == 0 ? 0 : 1};
            for (int sort = 0; sort < 5; sort++) {
                x.tape(sort, sort, 2);
                due("item", x.item(sort, 1, v), 1);
                due(v + " of sort " + sort, x.peek(sort, 1), want[sort]);
                due("the other stays", x.peek(sort, 0), 0);
            }
        }
        due("tape 6", x.item(6, 0, 1), NONE);
        due("tape -1", x.item(-1, 0, 1), NONE);
        due("nothing ahead of the place", x.item(5, -1, 1), NOTHING);
        for (int i : new int[] {-1, 2, 60, MAX, MIN}) {
            due("place " + i, x.item(0, i, 1), PLACE);
        }
    }

    private static void peek() {
        GrainGrower x = new GrainGrower();
        x.tape(0, 3, 3);
        x.item(0, 0, 5);
        x.item(0, 2, -6);
        due("first", x.peek(0, 0), 5);
        due("middle", x.peek(0, 1), 0);
        due("last", x.peek(0, 2), -6);
        for (int i : new int[] {-1, 3, 60, MAX, MIN}) {
            due("place " + i, x.peek(0, i), NO);
        }
        due("nothing there", x.peek(1, 0), NO);
        due("tape 6", x.peek(6, 0), NO);
        due("tape -1", x.peek(-1, 0), NO);
        x.tape(0, -1, 0);
        due("nothing there any more", x.peek(0, 0), NO);
    }

    private static void dueTape(String what, GrainGrower x, int tape, long... want) {
        for (int i = 0; i < want.length; i++) {
            due(what + ": item " + i, x.peek(tape, i), want[i]);
        }
        due(what + ": its end", x.peek(tape, want.length), NO);
    }

    private static void shift() {
        GrainGrower x = new GrainGrower();
        x.tape(0, 2, 5);
        x.tape(1, 2, 3);
        for (int i = 0; i < 5; i++) {
            x.item(0, i, i + 1);
        }
        due("three", x.shift(0, 1, 1, 0, 3), 3);
        dueTape("to another", x, 1, 2, 3, 4);
        dueTape("from", x, 0, 1, 2, 3, 4, 5);
        due("to the right", x.shift(0, 0, 0, 1, 4), 4);
        dueTape("to the right", x, 0, 1, 1, 2, 3, 4);
        due("to the left", x.shift(0, 1, 0, 0, 4), 4);
        dueTape("to the left", x, 0, 1, 2, 3, 4, 4);
        due("none at the ends", x.shift(0, 5, 1, 3, 0), 0);
        due("none beyond the end", x.shift(0, 6, 1, 3, 0), PLACE);
        int[][] places = {{-1, 0, 1}, {0, -1, 1}, {0, 0, -1}, {0, 0, 4}, {3, 0, 3}, {0, 1, 3}, {0, 4, 0},
            {MAX, 0, 1}, {0, MAX, 1}, {0, 0, MAX}, {MAX, MAX, MAX}, {MIN, 0, 0}, {1, 1, MIN}, {2, 2, MAX}};
        for (int[] p : places) {
            due("place " + p[0] + " " + p[1] + " " + p[2], x.shift(0, p[0], 1, p[1], p[2]), PLACE);
        }
        dueTape("nothing came", x, 1, 2, 3, 4);
        due("tape 6", x.shift(6, 0, 0, 0, 1), NONE);
        due("other 6", x.shift(0, 0, 6, 0, 1), NONE);
        due("tape -1 ahead of nothing", x.shift(-1, 0, 5, 0, 1), NONE);
        due("other -1 ahead of nothing", x.shift(5, 0, -1, 0, 1), NONE);
        due("nothing", x.shift(5, 0, 0, 0, 1), NOTHING);
        due("nothing there", x.shift(0, 0, 5, 0, -1), NOTHING);
        x.tape(2, 1, 5);
        due("unlike sorts ahead of the place", x.shift(0, 0, 2, 0, 99), CAST);
        due("unlike sorts", x.shift(2, 0, 0, 0, 0), CAST);
        x.tape(3, 2, 0);
        due("none to none", x.shift(3, 0, 3, 0, 0), 0);
    }

    /** A lattice with something in each of its parts. */
    private static GrainGrower rich() {
        GrainGrower x = new GrainGrower();
        Lattices.reading(x, "f00071;f08152;f14213;p07;h60;c14;n1;e2;m353;p35");
        x.seed(31);
        x.see(8, 2);
        x.event(0, 30);
        x.event(1, 2);
        x.event(2, 7);
        x.event(3, 50);
        x.event(4, 9);
        x.book(7, 1);
        x.book(8, 2);
        x.tape(0, 0, 9);
        x.item(0, 3, 4);
        x.tape(1, 2, 9);
        Lattices.type(x, "n0;");
        return x;
    }

    private static String stateOf(GrainGrower x) {
        StringBuilder b = new StringBuilder(Lattices.marksOf(x));
        for (int c = 0; c < 36; c++) {
            b.append(x.of(c, 1));
        }
        for (int what = 5; what < 12; what++) {
            b.append(' ').append(x.told(what));
        }
        for (int what = 0; what < 4; what++) {
            b.append(' ').append(x.count(what));
        }
        for (int i = 0; i < 9; i++) {
            b.append(' ').append(x.peek(0, i)).append(' ').append(x.peek(1, i));
        }
        int seed = x.seed(0);
        x.seed(seed);
        return b.append(' ').append(seed).append(' ').append(x.after(0)).append(' ').append(x.looked())
                .append(' ').append(x.fits(7, 0)).toString();
    }

    private static void askedChangesNothing() {
        GrainGrower x = rich();
        String before = stateOf(x);
        for (int a = 0; a < 12; a++) {
            x.told(a);
            x.share(a);
            x.large(a);
            x.gone(a);
            x.cold(a);
            x.best(a);
            x.odds(a);
            x.mean(a);
            x.worth(a);
            x.after(a);
            x.fits(20, a);
            x.judge(a, 0);
            for (int b = 0; b < 8; b++) {
                x.of(a, b);
                x.beside(a, b);
                x.costs(a, b);
                x.more(a, b);
                x.grain(a, b);
                x.meets(a, b);
                x.walls(a, b);
                x.peek(a, b);
            }
        }
        x.looked();
        due("what is asked changes nothing", stateOf(x).equals(before) ? 1 : 0, 1);
        x.image();
        due("an image changes nothing", stateOf(x).equals(before) ? 1 : 0, 1);
        x.cool(1);
        due("cooling does", stateOf(x).equals(before) ? 1 : 0, 0);
        x.undo();
        due("undo brings all back", stateOf(x).equals(before) ? 1 : 0, 1);
    }

    private static void refusedChangesNothing() {
        GrainGrower x = rich();
        String before = stateOf(x);
        x.undo();
        for (int n : new int[] {-2, -100, 201, 1000, MAX, MIN}) {
            x.size(n, n);
            x.mark(n, 1);
            x.mark(0, n);
            x.mark(7, 5);
            x.pin(n, 1);
            x.pin(0, n);
            x.set(n, 1);
            x.set(0, n);
            x.set(1, n);
            x.set(2, n);
            x.price(n, 1);
            x.price(1, n);
            x.change(n, 1);
            x.change(0, n);
            x.change(7, 5);
            x.tries(n);
            x.cool(n);
            x.feed(n);
            x.see(n, 0);
            x.see(0, n);
            x.event(n, 0);
            x.event(2, n);
            x.event(3, n);
            x.book(n, 0);
            x.book(0, n);
            x.tape(n, 0, 1);
            x.tape(0, n, 1);
            x.tape(0, 0, n);
            x.item(n, 0, 1);
            x.item(0, n, 1);
            x.shift(n, 0, 0, 0, 1);
            x.shift(0, 0, 1, 0, 1);
            x.shift(0, 3, 0, n, 1);
        }
        due("what is refused changes nothing", stateOf(x).equals(before) ? 1 : 0, 1);
    }
}
