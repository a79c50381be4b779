import java.util.ArrayList;
import java.util.List;
import java.util.function.Consumer;
import java.util.function.Supplier;
import java.util.function.ToLongFunction;

/** Which refusal comes first, and that neither a refused call nor one that asks changes anything. */
final class RefusalBounds {
    private static final int NONE = Due.NONE, BAD = Due.BAD, STATE = Due.STATE, FULL = Due.FULL;
    private static final int NOTHING = Due.NOTHING, CAST = Due.CAST, PLACE = Due.PLACE, SIZE = Due.SIZE;
    private static final int MAX = Due.MAX, MIN = Due.MIN;
    private static final int TERMS = Due.TERMS;
    private static final int[] OUTSIDE = {-2, -100, 201, MAX, MIN};

    private record Call(String name, ToLongFunction<GrainGrower> run) {
    }

    private final Due due;

    RefusalBounds(Due due) {
        this.due = due;
    }

    void run() {
        numbers();
        firstOfLattice();
        firstOfRows();
        firstOfTapes();
        refusedChangesNothing();
        askedChangesNothing();
    }

    private void numbers() {
        due.by(TERMS, "Answers: NONE (-1) no such number; BAD (-2) a number is not as told; STATE (-3) as told;"
                + " FULL (-4);");
        GrainGrower x = full();
        due.is("NONE", x.mark(36, 0), -1);
        due.is("BAD", x.mark(0, 8), -2);
        due.is("STATE", x.mark(7, 0), -3);
        due.is("FULL", x.see(0, 0), -4);
        due.is("the constant NONE", GrainGrower.NONE, -1);
        due.is("the constant BAD", GrainGrower.BAD, -2);
        due.is("the constant STATE", GrainGrower.STATE, -3);
        due.is("the constant FULL", GrainGrower.FULL, -4);
        due.is("the constant NO", GrainGrower.NO, Long.MIN_VALUE);
    }

    private void firstOfLattice() {
        due.by(TERMS, "the first that a call's words name.");
        for (int no : new int[] {-1, 36, MAX, MIN}) {
            for (int bad : new int[] {-1, 8, MAX, MIN}) {
                GrainGrower x = full();
                due.is("mark: NONE ahead of BAD", x.mark(no, bad), NONE);
                due.is("mark: BAD ahead of STATE", x.mark(7, bad), BAD);
                due.is("pin: NONE ahead of BAD", x.pin(no, bad), NONE);
                due.is("change: NONE ahead of BAD", x.change(no, bad), NONE);
                due.is("more: NONE ahead of BAD", x.more(no, bad), NONE);
                due.is("set: NONE ahead of BAD", x.set(no, bad == 8 ? 100 : bad), NONE);
                due.is("price: NONE ahead of BAD", x.price(no, bad == 8 ? 10 : bad), NONE);
                due.is("meets: NONE ahead of BAD", x.meets(no, bad), NONE);
                due.is("fits: BAD ahead of NONE", x.fits(bad == 8 ? 61 : bad, no), BAD);
                due.is("feed: BAD ahead of FULL", x.feed(bad == 8 ? 128 : bad), BAD);
            }
        }
        due.is("feed: FULL", full().feed(0), FULL);
        due.is("mark: STATE", full().mark(7, 0), STATE);
    }

    private void firstOfRows() {
        due.by(TERMS, "the first that a call's words name.");
        for (int no : new int[] {-2, 36, MAX, MIN}) {
            for (int bad : new int[] {-1, 8, MAX, MIN}) {
                for (GrainGrower x : new GrainGrower[] {full(), new GrainGrower()}) {
                    due.is("see: NONE ahead of BAD", x.see(no, bad), NONE);
                    due.is("see: BAD", x.see(0, bad), BAD);
                    due.is("see: NONE", x.see(no, 0), NONE);
                    due.is("book: NONE ahead of BAD", x.book(no, bad), NONE);
                    due.is("book: BAD", x.book(0, bad), BAD);
                    due.is("book: NONE", x.book(no, 0), NONE);
                    due.is("event: NONE ahead of BAD", x.event(no, bad), NONE);
                    due.is("event: NONE of a CELL", x.event(2, no), NONE);
                    due.is("event: BAD of TRIES", x.event(0, bad == 8 ? 61 : bad), BAD);
                    due.is("event: BAD of ROUNDS", x.event(1, bad == 8 ? 10 : bad), BAD);
                    due.is("event: BAD of HEAT", x.event(3, bad == 8 ? 100 : bad), BAD);
                    due.is("event: BAD of SEED", x.event(4, bad == 8 ? 100 : bad), BAD);
                }
            }
        }
        GrainGrower x = full();
        due.is("see: FULL", x.see(0, 0), FULL);
        due.is("book: FULL", x.book(0, 0), FULL);
        due.is("event: FULL", x.event(2, 0), FULL);
        due.is("see: -1 is not refused, though it is full", x.see(-1, 8), 0);
        due.is("book: -1 is not refused, though it is full", x.book(-1, 8), 0);
        due.is("event: -1 is not refused, though it is full", x.event(-1, 100), 0);
    }

    private void firstOfTapes() {
        due.by(TERMS, "the first that a call's words name.");
        GrainGrower x = new GrainGrower();
        x.tape(0, 2, 3);
        x.tape(1, 0, 3);
        for (int no : new int[] {-1, 6, MAX, MIN}) {
            due.is("tape: NONE ahead of BAD", x.tape(no, 5, 1), NONE);
            due.is("tape: NONE ahead of BAD", x.tape(no, 0, 61), NONE);
            due.is("tape: NONE ahead of SIZE", x.tape(no, 0, -1), NONE);
            due.is("item: NONE ahead of PLACE", x.item(no, -1, 0), NONE);
            due.is("judge: NONE, whatever the place is", x.judge(no, -1), NONE);
            due.is("shift: NONE ahead of NOTHING", x.shift(no, 0, 5, 0, 1), NONE);
            due.is("shift: NONE ahead of NOTHING", x.shift(5, 0, no, 0, 1), NONE);
            due.is("shift: NONE ahead of PLACE", x.shift(no, -1, 0, -1, -1), NONE);
            due.is("shift: NONE ahead of PLACE", x.shift(0, -1, no, -1, -1), NONE);
        }
        for (int sort : new int[] {-2, 5, MAX, MIN}) {
            due.is("tape: BAD ahead of SIZE", x.tape(0, sort, -1), BAD);
            due.is("tape: BAD twice", x.tape(0, sort, 61), BAD);
        }
        due.is("tape: SIZE", x.tape(0, 4, -1), SIZE);
        for (int place : new int[] {-1, 3, 60, MAX, MIN}) {
            due.is("item: NOTHING ahead of PLACE", x.item(5, place, 0), NOTHING);
            due.is("shift: NOTHING ahead of PLACE", x.shift(5, place, 0, place, place), NOTHING);
            due.is("shift: NOTHING ahead of PLACE", x.shift(0, place, 5, place, place), NOTHING);
            due.is("shift: CAST ahead of PLACE", x.shift(0, place, 1, place, place), CAST);
            due.is("shift: CAST ahead of PLACE", x.shift(1, place, 0, place, place), CAST);
            due.is("judge: CAST, whatever the place is", x.judge(0, place), CAST);
            due.is("item: PLACE", x.item(0, place, 0), PLACE);
        }
    }

    /** Something in each part, all that is told by hand being so, a pin in cell 7. */
    private static GrainGrower rich() {
        GrainGrower x = new GrainGrower();
        Lattices.reading(x, "f00071;f08152;f14213;p07;h60;c14;n1;e2;m353;p35");
        x.seed(31);
        x.see(8, 2);
        x.see(0, 1);
        x.event(0, 30);
        x.event(1, 2);
        x.event(2, 7);
        x.event(3, 50);
        x.event(4, 9);
        x.event(0, 17);
        x.book(7, 1);
        x.book(8, 2);
        x.book(0, 1);
        x.tape(0, 0, 9);
        x.item(0, 3, 4);
        x.tape(1, 2, 60);
        x.item(1, 59, -5);
        x.tape(2, 1, 0);
        x.tape(3, 3, 5);
        x.item(3, 4, Due.NO + 1);
        x.tape(4, 4, 5);
        x.item(4, 0, 1);
        Lattices.type(x, "n0;m002");
        return x;
    }

    /** All that can be full is full; an image is there that differs from what is now. */
    private static GrainGrower full() {
        GrainGrower x = rich();
        x.image();
        x.mark(20, 7);
        x.set(0, 80);
        x.seed(-12345);
        for (int i = 0; i < 8; i++) {
            x.see(i + 20, x.of(i + 20, 0));
            x.event(2, i + 9);
            x.book(i + 12, x.of(i + 12, 0));
        }
        Lattices.type(x, ";e1");
        while (x.count(3) < 100) {
            x.feed(';');
        }
        return x;
    }

    /** All that later calls show; it leaves the object changed. */
    private static String shown(GrainGrower x) {
        StringBuilder b = new StringBuilder();
        showLattice(x, b);
        showRows(x, b);
        showTapes(x, b);
        b.append(" read ").append(x.read());
        showLattice(x, b);
        b.append(" tries ").append(x.tries(50)).append(" cool ").append(x.cool(1));
        showLattice(x, b);
        b.append(" undo ").append(x.undo());
        showLattice(x, b);
        showRows(x, b);
        return b.toString();
    }

    private static void showLattice(GrainGrower x, StringBuilder b) {
        b.append('\n').append(Lattices.marksOf(x)).append(' ').append(Lattices.pinsOf(x));
        for (int what = 0; what < 12; what++) {
            b.append(' ').append(x.told(what));
        }
        b.append(" beside");
        for (int direction = 0; direction < 8; direction++) {
            b.append(' ').append(x.beside(0, direction));
        }
        b.append(" costs ").append(x.costs(0, 1)).append(x.costs(0, 2)).append(x.costs(0, 4));
        int seed = x.seed(0);
        x.seed(seed);
        b.append(" seed ").append(seed);
    }

    /** Each cell gets another mark for a while, so that the rows that tell of it show. */
    private static void showRows(GrainGrower x, StringBuilder b) {
        for (int what = 0; what < 4; what++) {
            b.append(" count ").append(x.count(what));
        }
        b.append(" after ").append(x.after(0)).append(' ').append(x.after(1)).append(' ').append(x.after(2));
        b.append(" fits ").append(x.fits(9, 0)).append(' ').append(x.fits(9, 1)).append(" looked ");
        for (int cell = 0; cell < Lattices.cells(x); cell++) {
            int pin = x.pin(cell, 0);
            int was = x.of(cell, 0);
            for (int v = 0; v < 8; v++) {
                x.mark(cell, v);
                b.append(x.looked() < 0 ? "-" : String.valueOf(x.looked())).append(x.fits(0, 0) == 0 ? 'n' : 'y');
            }
            x.mark(cell, was);
            x.pin(cell, pin);
        }
    }

    private static void showTapes(GrainGrower x, StringBuilder b) {
        for (int tape = 0; tape < 6; tape++) {
            b.append("\ntape ").append(tape);
            for (int i = 0; i < 61; i++) {
                long item = x.peek(tape, i);
                b.append(' ').append(item == Due.NO ? "-" : String.valueOf(item));
            }
            b.append(" judged ").append(x.judge(tape, 0));
            b.append(" item ").append(x.item(tape, 0, 0x1111111181818181L)).append(' ').append(x.peek(tape, 0));
        }
    }

    private static List<Call> refusedByTheLattice() {
        List<Call> calls = new ArrayList<>();
        for (int n : OUTSIDE) {
            calls.add(new Call("size(" + n + ", 6)", x -> x.size(n, 6)));
            calls.add(new Call("size(6, " + n + ")", x -> x.size(6, n)));
            calls.add(new Call("mark(" + n + ", 1)", x -> x.mark(n, 1)));
            calls.add(new Call("mark(0, " + n + ")", x -> x.mark(0, n)));
            calls.add(new Call("pin(" + n + ", 1)", x -> x.pin(n, 1)));
            calls.add(new Call("pin(0, " + n + ")", x -> x.pin(0, n)));
            calls.add(new Call("set(" + n + ", 1)", x -> x.set(n, 1)));
            for (int what = 0; what < 4; what++) {
                int w = what;
                calls.add(new Call("set(" + w + ", " + n + ")", x -> x.set(w, n)));
                calls.add(new Call("price(" + w + ", " + n + ")", x -> x.price(w, n)));
            }
            calls.add(new Call("price(" + n + ", 1)", x -> x.price(n, 1)));
            calls.add(new Call("change(" + n + ", 1)", x -> x.change(n, 1)));
            calls.add(new Call("change(0, " + n + ")", x -> x.change(0, n)));
            calls.add(new Call("tries(" + n + ")", x -> x.tries(n)));
            calls.add(new Call("cool(" + n + ")", x -> x.cool(n)));
            calls.add(new Call("feed(" + n + ")", x -> x.feed(n)));
        }
        calls.add(new Call("size(1, 6)", x -> x.size(1, 6)));
        calls.add(new Call("size(6, 7)", x -> x.size(6, 7)));
        calls.add(new Call("mark(36, 1)", x -> x.mark(36, 1)));
        calls.add(new Call("mark(-1, 1)", x -> x.mark(-1, 1)));
        calls.add(new Call("mark(0, 8)", x -> x.mark(0, 8)));
        calls.add(new Call("mark(0, -1)", x -> x.mark(0, -1)));
        calls.add(new Call("pin(36, 1)", x -> x.pin(36, 1)));
        calls.add(new Call("pin(7, 2)", x -> x.pin(7, 2)));
        calls.add(new Call("pin(7, -1)", x -> x.pin(7, -1)));
        calls.add(new Call("set(0, 100)", x -> x.set(0, 100)));
        calls.add(new Call("set(1, 3)", x -> x.set(1, 3)));
        calls.add(new Call("set(2, 3)", x -> x.set(2, 3)));
        calls.add(new Call("price(0, 0)", x -> x.price(0, 0)));
        calls.add(new Call("price(2, 5)", x -> x.price(2, 5)));
        calls.add(new Call("change(36, 1)", x -> x.change(36, 1)));
        calls.add(new Call("change(0, 8)", x -> x.change(0, 8)));
        calls.add(new Call("tries(-1)", x -> x.tries(-1)));
        calls.add(new Call("cool(31)", x -> x.cool(31)));
        calls.add(new Call("cool(-1)", x -> x.cool(-1)));
        calls.add(new Call("feed(128)", x -> x.feed(128)));
        return calls;
    }

    private static List<Call> refusedByRowsAndTapes() {
        List<Call> calls = new ArrayList<>();
        for (int n : new int[] {-2, 201, MAX, MIN, 61}) {
            calls.add(new Call("see(" + n + ", 0)", x -> x.see(n, 0)));
            calls.add(new Call("see(0, " + n + ")", x -> x.see(0, n)));
            calls.add(new Call("book(" + n + ", 0)", x -> x.book(n, 0)));
            calls.add(new Call("book(0, " + n + ")", x -> x.book(0, n)));
            calls.add(new Call("event(" + n + ", 0)", x -> x.event(n, 0)));
            for (int what = 0; what < 3; what++) {
                int w = what;
                calls.add(new Call("event(" + w + ", " + n + ")", x -> x.event(w, n)));
            }
            calls.add(new Call("tape(" + n + ", 0, 1)", x -> x.tape(n, 0, 1)));
            calls.add(new Call("tape(" + n + ", -1, 1)", x -> x.tape(n, -1, 1)));
            calls.add(new Call("item(" + n + ", 0, 1)", x -> x.item(n, 0, 1)));
            for (int tape = 0; tape < 6; tape++) {
                int t = tape;
                calls.add(new Call("tape(" + t + ", " + n + ", 1)", x -> x.tape(t, n, 1)));
                calls.add(new Call("tape(" + t + ", 1, " + n + ")", x -> x.tape(t, 1, n)));
                calls.add(new Call("item(" + t + ", " + n + ", 1)", x -> x.item(t, n, 1)));
                calls.add(new Call("shift(" + t + ", 0, 1, 0, " + n + ")", x -> x.shift(t, 0, 1, 0, n)));
                calls.add(new Call("shift(1, 50, " + t + ", 0, 61)", x -> x.shift(1, 50, t, 0, 61)));
                calls.add(new Call("shift(1, " + n + ", 1, 0, 1)", x -> x.shift(1, n, 1, 0, 1)));
            }
            calls.add(new Call("shift(1, 0, 1, " + n + ", 1)", x -> x.shift(1, 0, 1, n, 1)));
            calls.add(new Call("shift(" + n + ", 0, 1, 0, 1)", x -> x.shift(n, 0, 1, 0, 1)));
            calls.add(new Call("shift(1, 0, " + n + ", 0, 1)", x -> x.shift(1, 0, n, 0, 1)));
        }
        calls.add(new Call("event(3, 100)", x -> x.event(3, 100)));
        calls.add(new Call("event(4, 100)", x -> x.event(4, 100)));
        calls.add(new Call("event(1, 10)", x -> x.event(1, 10)));
        calls.add(new Call("shift(1, 59, 1, 0, 2)", x -> x.shift(1, 59, 1, 0, 2)));
        calls.add(new Call("shift(1, 0, 1, 59, 2)", x -> x.shift(1, 0, 1, 59, 2)));
        calls.add(new Call("shift(1, 0, 3, 0, 1)", x -> x.shift(1, 0, 3, 0, 1)));
        calls.add(new Call("shift(1, 0, 5, 0, 1)", x -> x.shift(1, 0, 5, 0, 1)));
        return calls;
    }

    private static List<Call> refusedWhenFull() {
        List<Call> calls = new ArrayList<>();
        calls.add(new Call("mark(7, 5)", x -> x.mark(7, 5)));
        calls.add(new Call("see(0, 1)", x -> x.see(0, 1)));
        calls.add(new Call("book(0, 1)", x -> x.book(0, 1)));
        for (int what = 0; what < 5; what++) {
            int w = what;
            calls.add(new Call("event(" + w + ", 3)", x -> x.event(w, 3)));
        }
        calls.add(new Call("feed(110)", x -> x.feed(110)));
        return calls;
    }

    private void dueUnchanged(Supplier<GrainGrower> made, List<Call> calls) {
        String want = shown(made.get());
        for (Call call : calls) {
            GrainGrower x = made.get();
            long answer = call.run().applyAsLong(x);
            due.so(call.name() + " is refused: " + answer, answer < 0);
            due.same("what is shown behind " + call.name(), shown(x), want);
        }
    }

    private void refusedChangesNothing() {
        due.by(TERMS, "What is answered so changes nothing;");
        dueUnchanged(RefusalBounds::rich, refusedByTheLattice());
        dueUnchanged(RefusalBounds::rich, refusedByRowsAndTapes());
        dueUnchanged(RefusalBounds::full, refusedByTheLattice());
        dueUnchanged(RefusalBounds::full, refusedByRowsAndTapes());
        dueUnchanged(RefusalBounds::full, refusedWhenFull());
        dueUnchanged(RefusalBounds::rich, List.of(new Call("undo()", GrainGrower::undo)));
    }

    private static void askOfCells(GrainGrower x) {
        for (int a = -2; a < 40; a++) {
            for (int b = -2; b < 10; b++) {
                x.of(a, b);
                x.beside(a, b);
                x.costs(a, b);
                x.more(a, b);
                x.grain(a, b);
                x.meets(a, b);
                x.peek(a, b);
                x.judge(a, b);
            }
            for (int b = -2; b < 40; b++) {
                x.walls(a, b);
            }
            x.told(a);
            x.share(a);
            x.large(a);
            x.gone(a);
            x.count(a);
        }
    }

    private static void askOfAll(GrainGrower x) {
        for (int a = -2; a < 5; a++) {
            x.cold(a);
            x.best(a);
            x.odds(a);
            x.mean(a);
            x.after(a);
            x.worth(a * 1000000000L);
            for (int n : new int[] {-1, 0, 1, 60, 61}) {
                x.fits(n, a);
            }
        }
        x.looked();
    }

    private void askedChangesNothing() {
        List<Consumer<GrainGrower>> asks = List.of(RefusalBounds::askOfCells, RefusalBounds::askOfAll,
                x -> x.gone(14), x -> x.cold(0), x -> x.cold(1), x -> x.best(0), x -> x.fits(60, 1), x -> x.after(0),
                x -> x.after(2), x -> x.odds(0), GrainGrower::looked, x -> x.judge(0, 0));
        due.by(TERMS, "==== 2 All that follows is asked, and changes nothing (SEED neither).");
        for (GrainGrower x : new GrainGrower[] {rich(), full()}) {
            int seed = x.seed(-77);
            askOfCells(x);
            askOfAll(x);
            due.is("SEED", x.seed(seed), -77);
        }
        due.by(TERMS, "what is asked changes nothing.");
        for (Consumer<GrainGrower> ask : asks) {
            GrainGrower one = rich();
            ask.accept(one);
            due.same("what is shown behind asks", shown(one), shown(rich()));
            GrainGrower other = full();
            ask.accept(other);
            due.same("what is shown behind asks", shown(other), shown(full()));
            GrainGrower twice = full();
            ask.accept(twice);
            ask.accept(twice);
            due.same("what is shown behind asks twice", shown(twice), shown(full()));
        }
    }
}
