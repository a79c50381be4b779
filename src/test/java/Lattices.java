/** Lattices as the tests write them, and texts read by them. */
final class Lattices {
    private Lattices() {
    }

    /** Row by row a digit for each mark; blanks between rows don't matter. */
    static GrainGrower of(int high, int wide, String marks) {
        GrainGrower x = new GrainGrower();
        x.size(high, wide);
        String m = marks.replace(" ", "");
        for (int c = 0; c < m.length(); c++) {
            x.mark(c, m.charAt(c) - '0');
        }
        return x;
    }

    /** A 1 for each pin, a 0 for none. */
    static void pinAll(GrainGrower x, String pins) {
        String p = pins.replace(" ", "");
        for (int c = 0; c < p.length(); c++) {
            x.pin(c, p.charAt(c) - '0');
        }
    }

    static int cells(GrainGrower x) {
        return x.told(6) * x.told(7);
    }

    static String marksOf(GrainGrower x) {
        StringBuilder b = new StringBuilder();
        for (int c = 0; c < cells(x); c++) {
            b.append(x.of(c, 0));
        }
        return b.toString();
    }

    static String pinsOf(GrainGrower x) {
        StringBuilder b = new StringBuilder();
        for (int c = 0; c < cells(x); c++) {
            b.append(x.of(c, 1));
        }
        return b.toString();
    }

    static void type(GrainGrower x, String text) {
        for (int i = 0; i < text.length(); i++) {
            x.feed(text.charAt(i));
        }
    }

    static int reading(GrainGrower x, String text) {
        type(x, text);
        return x.read();
    }

    /** Two by SIX and one by EIGHT that go on changing for that many rounds of cooling (29 .. 31). */
    static GrainGrower coolingFor(int rounds) {
        String marks29 = "712203 143720 000147 224650 624436 457134";
        String pins29 = "101000 011100 000000 000110 100001 001000";
        String marks30 = "772040 153736 173330 615651 641146 257234";
        String pins30 = "111000 011100 000000 000110 100001 001000";
        String marks31 = "027710 332347 747052 425165 307206 714542";
        String pins31 = "101001 110000 111100 000000 001110 110101";
        GrainGrower x = of(6, 6, rounds == 29 ? marks29 : rounds == 30 ? marks30 : marks31);
        x.set(1, rounds == 31 ? 1 : 2);
        x.set(2, 2);
        x.price(1, 4);
        pinAll(x, rounds == 29 ? pins29 : rounds == 30 ? pins30 : pins31);
        return x;
    }

    /** A lattice with a grain that lasts for that many rounds: 30 (that of cell 3), 31 (of cell 2). */
    static GrainGrower lastingFor(int rounds) {
        String marks30 = "541266 262677 303253 317501 542745 430400";
        String pins30 = "000000 010100 000000 011010 000000 000111";
        String marks31 = "052246 361607 372643 313707 643766 427400";
        String pins31 = "000010 010100 000000 010110 000000 000111";
        GrainGrower x = of(6, 6, rounds == 30 ? marks30 : marks31);
        x.set(1, 2);
        x.set(2, 2);
        x.price(1, 3);
        pinAll(x, rounds == 30 ? pins30 : pins31);
        return x;
    }
}
