import java.util.regex.Matcher;
import java.util.regex.Pattern;

/** THE TEXT: promises 11 and 12, and what part 1 of the document says of set-ups. */
final class TextBounds {
    private static final int BAD = Due.BAD, FULL = Due.FULL;
    private static final int MAX = Due.MAX, MIN = Due.MIN;
    private static final int TERMS = Due.TERMS;
    private static final String CLAUSE =
            "(s[0-9]{2}|m[0-9]{3}|f[0-9]{5}|p[0-9]{2}|n[0-9]|e[0-9]|c[0-9]{2}|h[0-9]{2})";
    private static final Pattern SET_UP = Pattern.compile(CLAUSE + "(;" + CLAUSE + "){0,11}");

    private final Due due;

    TextBounds(Due due) {
        this.due = due;
    }

    void run() {
        feed();
        clauseCount();
        sizesAndMarks();
        blocks();
        pinsAndKinds();
        pricesAndHeat();
        nothingElse();
        faults();
        oneBehindTheOther();
        read();
    }

    private static String repeated(String clause, int times) {
        return (clause + ";").repeat(times - 1) + clause;
    }

    private void feed() {
        due.by(TERMS, "A set-up is read from THE TEXT (bytes, 100 at most):");
        GrainGrower x = new GrainGrower();
        Lattices.type(x, "n".repeat(100));
        due.is("100", x.count(3), 100);
        due.is("no more", x.feed('n'), FULL);
        due.is("100 still", x.count(3), 100);
        due.by(11, "A sign (0 .. 127) comes behind THE TEXT's: how many it has.");
        x = new GrainGrower();
        due.is("sign 0", x.feed(0), 1);
        due.is("sign 127", x.feed(127), 2);
        for (int i = 3; i <= 100; i++) {
            due.is("sign " + i, x.feed(i), i);
        }
        x = new GrainGrower();
        Lattices.type(x, "h4");
        x.feed('2');
        due.is("the signs stand in their order", x.read(), 1);
        due.is("HEAT", x.told(8), 42);
        due.by(11, "BAD; FULL.");
        for (int sign : new int[] {-1, 128, 255, 256 + 'n', MAX, MIN}) {
            due.is("sign " + sign, x.feed(sign), BAD);
        }
        due.is("none came", x.count(3), 0);
        Lattices.type(x, "n".repeat(99));
        due.is("the hundredth", x.feed('n'), 100);
        due.is("one more", x.feed('n'), FULL);
        due.is("one more that is BAD", x.feed(128), BAD);
        due.is("100 still", x.count(3), 100);
        x.read();
        due.is("room again", x.feed('n'), 1);
        x = new GrainGrower();
        Lattices.type(x, repeated("f00000", 12));
        Lattices.type(x, "x".repeat(17));
        x.feed('0');
        due.is("what came when it was full is not there", x.read(), -10 - 83);
    }

    private void clauseCount() {
        due.by(TERMS, "CLAUSES, 1 to 12, with ; between:");
        GrainGrower x = new GrainGrower();
        due.is("none", x.read(), -10);
        due.is("one", Lattices.reading(x, "n1"), 1);
        due.is("twelve", Lattices.reading(x, repeated("n1", 12)), 12);
        due.is("thirteen", Lattices.reading(x, repeated("n1", 13)), -10 - 35);
        due.is("twelve and a ;", Lattices.reading(x, repeated("n1", 12) + ";"), -10 - 35);
        due.is("eleven and a ;", Lattices.reading(x, repeated("n1", 11) + ";"), -10 - 33);
        due.is("twelve of the longest", Lattices.reading(x, repeated("f00350", 12)), 12);
        due.is("two without ; between", Lattices.reading(x, "n1n1"), -12);
        due.is("two with ;; between", Lattices.reading(x, "n1;;n1"), -13);
        due.is("a ; ahead", Lattices.reading(x, ";n1"), -10);
        due.is("33 of them", Lattices.reading(x, repeated("n1", 33)), -10 - 35);
        x = new GrainGrower();
        Lattices.reading(x, repeated("p07", 12));
        due.is("the twelfth is done too", x.told(5), 0);
        Lattices.reading(x, repeated("p07", 11));
        due.is("eleven", x.told(5), 1);
    }

    /** Each clause alone on a new object: whether it is done, and what it answers then. */
    private void dueDone(String... clauses) {
        for (String clause : clauses) {
            due.is(clause, Lattices.reading(new GrainGrower(), clause), 1);
        }
    }

    private void dueRefused(String... clauses) {
        for (String clause : clauses) {
            GrainGrower x = new GrainGrower();
            due.is(clause, Lattices.reading(x, clause), 0);
            due.same(clause, stateOf(x), stateOf(new GrainGrower()));
        }
    }

    private static String stateOf(GrainGrower x) {
        StringBuilder b = new StringBuilder();
        b.append(Lattices.marksOf(x)).append(' ').append(Lattices.pinsOf(x));
        for (int what = 6; what < 12; what++) {
            b.append(' ').append(x.told(what));
        }
        return b.toString();
    }

    private void sizesAndMarks() {
        due.by(TERMS, "s HIGH WIDE (a digit each: as size());");
        dueDone("s22", "s26", "s62", "s66");
        dueRefused("s12", "s21", "s72", "s27", "s00", "s99", "s16", "s61", "s76", "s67");
        GrainGrower x = new GrainGrower();
        x.mark(1, 5);
        x.pin(2, 1);
        Lattices.reading(x, "s26");
        due.is("HIGH", x.told(6), 2);
        due.is("WIDE", x.told(7), 6);
        due.marks("as size()", x, "000000 000000");
        due.pins("as size()", x, "000000 000000");
        due.by(TERMS, "m CELL MARK (2 digits, a digit: as mark());");
        dueDone("m000", "m007", "m350", "m357");
        dueRefused("m008", "m009", "m360", "m367", "m990", "m999");
        x = Lattices.of(2, 3, "");
        x.pin(5, 1);
        due.is("a PIN", Lattices.reading(x, "m051"), 0);
        due.is("the last without one", Lattices.reading(x, "m047"), 1);
        due.is("none behind the last", Lattices.reading(x, "m061"), 0);
        due.marks("one MARK", x, "000 070");
    }

    private void blocks() {
        due.by(TERMS, "f CELL CELL MARK (2 digits, 2 digits, a digit: all CELLS without PIN in the rows from the"
                + " first one's to the second one's and the columns from the first one's to the second one's have"
                + " that MARK;");
        dueBlock("f00117", "7777 7777 7777");
        dueBlock("f00001", "1000 0000 0000");
        dueBlock("f11111", "0000 0000 0001");
        dueBlock("f00031", "1111 0000 0000");
        dueBlock("f00081", "1000 1000 1000");
        dueBlock("f03111", "0001 0001 0001");
        dueBlock("f08111", "0000 0000 1111");
        dueBlock("f05061", "0000 0110 0000");
        dueBlock("f01101", "0110 0110 0110");
        dueBlock("f02071", "0011 0011 0000");
        GrainGrower x = Lattices.of(3, 4, "2222 2222 2222");
        x.pin(5, 1);
        x.pin(0, 1);
        due.is("pins within and without", Lattices.reading(x, "f01100"), 1);
        due.marks("all without PIN", x, "2002 2202 2002");
        due.pins("they stay", x, "1000 0100 0000");
        due.is("nothing but a pin within", Lattices.reading(x, "f05050"), 1);
        due.marks("nothing changed", x, "2002 2202 2002");
        due.by(TERMS, "it is refused, if there is no such CELL or MARK, or a row or a column of the second is less"
                + " than that of the first);");
        dueRefused("f00360", "f36360", "f00990", "f36000", "f00358", "f00359", "f00008");
        for (String clause : new String[] {"f00121", "f12121", "f12001", "f00118", "f00119", "f04001", "f04031",
            "f01041", "f01001", "f01081", "f07081", "f11071", "f11101", "f05081", "f06021", "f06051"}) {
            x = Lattices.of(3, 4, "2222 2222 2222");
            due.is(clause + " of 3 by 4", Lattices.reading(x, clause), 0);
            due.marks(clause, x, "2222 2222 2222");
        }
    }

    private void dueBlock(String clause, String want) {
        GrainGrower x = Lattices.of(3, 4, "");
        due.is(clause, Lattices.reading(x, clause), 1);
        due.marks(clause, x, want);
    }

    private void pinsAndKinds() {
        due.by(TERMS, "p CELL (2 digits: a PIN, if there is none; else none any more);");
        dueDone("p00", "p35");
        dueRefused("p36", "p99");
        GrainGrower x = Lattices.of(2, 3, "");
        due.is("the last", Lattices.reading(x, "p05"), 1);
        due.pins("a PIN", x, "000 001");
        due.is("none behind it", Lattices.reading(x, "p06"), 0);
        due.is("the last again", Lattices.reading(x, "p05"), 1);
        due.pins("none any more", x, "000 000");
        due.by(TERMS, "n KIND (a digit: NEAR);");
        dueDone("n0", "n1", "n2");
        dueRefused("n3", "n9");
        Lattices.reading(x, "n2");
        due.is("NEAR", x.told(9), 2);
        due.is("EDGES", x.told(10), 0);
        due.by(TERMS, "e KIND (a digit: EDGES);");
        dueDone("e0", "e1", "e2");
        dueRefused("e3", "e9");
        Lattices.reading(x, "e1");
        due.is("EDGES", x.told(10), 1);
        due.is("NEAR", x.told(9), 2);
    }

    private void pricesAndHeat() {
        due.by(TERMS, "c KIND n (a digit each: PRICE, as price());");
        dueDone("c01", "c09", "c11", "c14", "c21", "c24", "c30", "c39");
        dueRefused("c00", "c10", "c15", "c20", "c25", "c41", "c91", "c99", "c40");
        GrainGrower x = new GrainGrower();
        Lattices.reading(x, "c39");
        due.is("PRICE", x.told(11), 39);
        due.is("it is paid", x.costs(0, 1), 9);
        due.by(TERMS, "h HEAT (2 digits).");
        dueDone("h00", "h99");
        for (int heat : new int[] {99, 10, 9, 1, 0}) {
            Lattices.reading(x, "h" + heat / 10 + heat % 10);
            due.is("HEAT", x.told(8), heat);
        }
    }

    private void nothingElse() {
        due.by(TERMS, "Nothing else stands between (no blanks).");
        GrainGrower x = new GrainGrower();
        String[] texts = {" n0", "n 0", "n0 ", "n0 ;n0", "n0; n0", "n0\n", "n0;\nn0", "n0,n0", "(n0)", "N0", "n0.",
            "m00,1", "m00 1", "f00 351", "f0035,1", "n+1", "h-1", "\u0000n0", "n\u0000", "n0\u007f"};
        int[] faults = {0, 1, 2, 2, 3, 2, 3, 2, 0, 0, 2, 3, 3, 3, 5, 1, 1, 0, 1, 2};
        for (int i = 0; i < texts.length; i++) {
            due.is("\"" + texts[i] + "\"", Lattices.reading(x, texts[i]), -10 - faults[i]);
        }
    }

    /** The first place up to which no set-up begins so; the length if it may go on; -1 without FAULT. */
    private static int faultOf(String text) {
        for (int end = 1; end <= text.length(); end++) {
            Matcher m = SET_UP.matcher(text.substring(0, end));
            if (!m.matches() && !m.hitEnd()) {
                return end - 1;
            }
        }
        return SET_UP.matcher(text).matches() ? -1 : text.length();
    }

    private void dueFault(String text) {
        GrainGrower x = new GrainGrower();
        int fault = faultOf(text);
        int answer = Lattices.reading(x, text);
        due.is("\"" + text + "\"", fault < 0 ? Math.min(answer, 0) : answer, fault < 0 ? 0 : -10 - fault);
        due.is("\"" + text + "\" is gone", x.count(3), 0);
    }

    private void faults() {
        due.by(TERMS, "The FAULT: the place of the first byte with which none begins so");
        String all = "s66;m001;f07351;p07;n1;e2;c14;h99";
        for (int place = 0; place < all.length(); place++) {
            for (int sign = 0; sign < 128; sign++) {
                dueFault(all.substring(0, place) + (char) sign + all.substring(place + 1));
            }
        }
        String twelve = repeated("n1", 12);
        for (int sign = 0; sign < 128; sign++) {
            dueFault(twelve + (char) sign);
            dueFault(repeated("f00000", 12) + (char) sign + "n0");
            dueFault(String.valueOf((char) sign));
            dueFault("x" + (char) sign);
        }
        due.is("of two the first", Lattices.reading(new GrainGrower(), "n0;x;y"), -13);
        due.by(TERMS, "(the end of THE TEXT, if it ends too early).");
        due.is("empty", new GrainGrower().read(), -10);
        for (int end = 0; end <= all.length(); end++) {
            dueFault(all.substring(0, end));
        }
        for (String clause : all.split(";")) {
            for (int end = 1; end < clause.length(); end++) {
                due.is(clause.substring(0, end), Lattices.reading(new GrainGrower(), clause.substring(0, end)),
                        -10 - end);
            }
            due.is(clause + ";", Lattices.reading(new GrainGrower(), clause + ";"), -11 - clause.length());
        }
    }

    private void oneBehindTheOther() {
        due.by(TERMS, "Without it they are done, one behind the other; those that would be refused aren't.");
        GrainGrower x = new GrainGrower();
        due.is("the last of the same wins", Lattices.reading(x, "h11;h99;h22"), 3);
        due.is("HEAT", x.told(8), 22);
        due.is("by the size that the one ahead told", Lattices.reading(x, "m351;s22;m351;m031"), 3);
        due.marks("2 by 2", x, "00 01");
        due.is("by the pin that the one ahead told", Lattices.reading(x, "p03;m032;p03;m034;p03"), 4);
        due.marks("4", x, "00 04");
        due.pins("its pin", x, "00 01");
        due.is("refused first, middle, last", Lattices.reading(x, "s11;n2;s77;e2;c00"), 2);
        due.is("NEAR", x.told(9), 2);
        due.is("EDGES", x.told(10), 2);
        due.is("none of twelve", Lattices.reading(x, repeated("s11", 12)), 0);
        String before = stateOf(x);
        due.is("with a FAULT behind", Lattices.reading(x, "s66;h99;n0;e0;c39;x"), -10 - 18);
        due.same("none is done", stateOf(x), before);
        due.is("with an early end", Lattices.reading(x, "s66;h99;n0;e0;c39;"), -10 - 18);
        due.same("none is done", stateOf(x), before);
    }

    private void read() {
        due.by(12, "THE TEXT, which is empty then (by a FAULT, too), is a set-up:");
        GrainGrower x = new GrainGrower();
        Lattices.type(x, "n1;e1");
        due.is("read", x.read(), 2);
        due.is("empty then", x.count(3), 0);
        due.is("read again", x.read(), -10);
        Lattices.type(x, "n0x");
        due.is("a FAULT", x.read(), -12);
        due.is("empty then, too", x.count(3), 0);
        due.is("read again", x.read(), -10);
        Lattices.type(x, "s11");
        due.is("all refused", x.read(), 0);
        due.is("empty then, too", x.count(3), 0);
        due.is("NEAR is as it was", x.told(9), 1);
        Lattices.type(x, "n".repeat(100));
        due.is("a full one", x.read(), -11);
        due.is("empty then, too", x.count(3), 0);
        due.by(12, "how many CLAUSES were done; -10 less the FAULT.");
        due.is("the fewest", Lattices.reading(x, "s11"), 0);
        due.is("one", Lattices.reading(x, "s11;n0"), 1);
        due.is("the most", Lattices.reading(x, repeated("n0", 12)), 12);
        due.is("the first FAULT", Lattices.reading(x, "x"), -10);
        due.is("the last FAULT", Lattices.reading(x, repeated("f00000", 12) + ";"), -93);
    }
}
