import java.util.Random;

/** Long runs of calls by fixed seeds: the class must answer as Model does, call by call. */
public final class ModelTest {
    private static final int RUNS = 1000, CALLS = 512;
    private static final int[] EDGES = {-1, 0, 1, 2, 3, 4, 5, 6, 7, 8, 9, 10, 30, 31, 35, 36, 59, 60,
        61, 99, 100, 101, 127, 128, 200, 201, -2, -5, Integer.MAX_VALUE, Integer.MIN_VALUE};
    private static final long[] LONGS = {0, 1, -1, 5, 127, 128, 255, 256, -129, 32768, 65536, 3037000499L,
        3037000500L, -3037000499L, -3037000500L, 1L << 31, 1L << 32, Long.MAX_VALUE, Long.MIN_VALUE,
        500000000L, 300000000L, -300000000L, 1000000000L};
    private static final String[] LETTERS = {"s", "m", "f", "p", "n", "e", "c", "h"};
    private static final int[] DIGITS = {2, 3, 5, 2, 1, 1, 2, 2};

    private final Random random;
    private final GrainGrower x = new GrainGrower();
    private final Model m = new Model();
    private final StringBuilder log = new StringBuilder();
    private final boolean varied;
    private int wrong = 0;
    private int calls = 0;

    private ModelTest(int seed) {
        random = new Random(seed);
        varied = seed % 3 != 0;
    }

    public static void main(String[] args) {
        int wrongRuns = 0;
        for (int seed = 0; seed < RUNS && wrongRuns < 5; seed++) {
            ModelTest run = new ModelTest(seed);
            run.play();
            if (run.wrong > 0) {
                wrongRuns++;
                System.out.println("run " + seed + ":\n" + run.log);
            }
        }
        System.out.println(wrongRuns == 0 ? "the class answers as the model does" : "not as the model");
        if (wrongRuns != 0) {
            System.exit(1);
        }
    }

    private void due(String call, long got, long want) {
        calls++;
        log.append("  ").append(call).append(" -> ").append(got);
        if (got != want) {
            wrong++;
            log.append(", due is ").append(want);
        }
        log.append('\n');
    }

    private int edge() {
        return EDGES[random.nextInt(EDGES.length)];
    }

    /** Mostly a number from least to most, at times one that is refused. */
    private int num(int least, int most) {
        int k = random.nextInt(20);
        return k == 0 ? edge() : k == 1 ? least - 1 : k == 2 ? most + 1
                : least + random.nextInt(most - least + 1);
    }

    private int cell() {
        int cells = m.told(6) * m.told(7);
        return num(0, cells - 1);
    }

    private void play() {
        if (varied) {
            feedText(randomText());
            scatter();
        }
        while (calls < CALLS && wrong == 0) {
            int pick = random.nextInt(46);
            if (pick < 12) {
                lattice(pick);
            } else if (pick < 18) {
                told(pick);
            } else if (pick < 31) {
                asked(pick);
            } else if (pick < 42) {
                rowsAndTapes(pick);
            } else if (pick == 42) {
                feedText(randomText());
            } else if (pick == 43) {
                scatter();
            } else if (pick == 44) {
                judged();
            } else {
                whole();
            }
        }
    }

    private void scatter() {
        int most = 1 + random.nextInt(8);
        for (int k = random.nextInt(40); k > 0; k--) {
            mark(cell(), random.nextInt(most));
        }
    }

    private void mark(int c, int v) {
        due("mark(" + c + ", " + v + ")", x.mark(c, v), m.mark(c, v));
    }

    private String randomText() {
        StringBuilder t = new StringBuilder();
        int clauses = random.nextInt(10) == 0 ? 11 + random.nextInt(3) : 1 + random.nextInt(6);
        boolean isShort = clauses > 10;
        for (int k = 0; k < clauses; k++) {
            int which = isShort ? 3 + random.nextInt(5) : random.nextInt(8);
            t.append(k == 0 ? "" : ";").append(LETTERS[which]);
            for (int d = 0; d < DIGITS[which]; d++) {
                boolean isTens = DIGITS[which] > 2 && d % 2 == 0 && d < DIGITS[which] - 1;
                t.append((char) ('0' + random.nextInt(isTens ? 4 : 8)));
            }
        }
        int spoil = random.nextInt(6);
        if (spoil == 0) {
            t.setLength(random.nextInt(t.length() + 1));
        } else if (spoil == 1) {
            t.setCharAt(random.nextInt(t.length()), ";smf9 /:x".charAt(random.nextInt(9)));
        } else if (spoil == 2) {
            t.append(random.nextBoolean() ? ';' : (char) random.nextInt(128));
        }
        return t.toString();
    }

    private void feedText(String t) {
        if (random.nextBoolean()) {
            due("read()", x.read(), m.read());
        }
        for (int k = 0; k < t.length(); k++) {
            due("feed(" + (int) t.charAt(k) + ")", x.feed(t.charAt(k)), m.feed(t.charAt(k)));
        }
        due("read()", x.read(), m.read());
    }

    private void lattice(int pick) {
        int a, b;
        switch (pick) {
            case 0:
                if (random.nextInt(4) == 0) {
                    a = num(2, 6);
                    b = num(2, 6);
                    due("size(" + a + ", " + b + ")", x.size(a, b), m.size(a, b));
                }
                break;
            case 1:
            case 2:
                mark(cell(), num(0, 7));
                break;
            case 3:
                a = cell();
                b = num(0, 1);
                due("pin(" + a + ", " + b + ")", x.pin(a, b), m.pin(a, b));
                break;
            case 4:
                a = num(0, 2);
                b = a == 0 ? num(0, 99) : num(0, 2);
                due("set(" + a + ", " + b + ")", x.set(a, b), m.set(a, b));
                break;
            case 5:
                a = num(0, 3);
                b = num(0, 9);
                due("price(" + a + ", " + b + ")", x.price(a, b), m.price(a, b));
                break;
            case 6:
                a = random.nextBoolean() ? random.nextInt() : edge();
                due("seed(" + a + ")", x.seed(a), m.seed(a));
                break;
            case 7:
                a = cell();
                b = num(0, 7);
                due("change(" + a + ", " + b + ")", x.change(a, b), m.change(a, b));
                break;
            case 8:
                a = random.nextBoolean() ? random.nextInt(4) : num(0, 200);
                due("tries(" + a + ")", x.tries(a), m.tries(a));
                break;
            case 9:
                a = random.nextInt(3) > 0 ? random.nextInt(2) : num(0, 30);
                due("cool(" + a + ")", x.cool(a), m.cool(a));
                break;
            case 10:
                a = num(0, 127);
                due("feed(" + a + ")", x.feed(a), m.feed(a));
                break;
            default:
                if (random.nextInt(4) == 0) {
                    due("read()", x.read(), m.read());
                }
                break;
        }
    }

    private void told(int pick) {
        int a, b;
        switch (pick) {
            case 12:
                a = cell();
                b = num(0, 3);
                due("of(" + a + ", " + b + ")", x.of(a, b), m.of(a, b));
                break;
            case 13:
                a = cell();
                b = num(0, 8);
                due("beside(" + a + ", " + b + ")", x.beside(a, b), m.beside(a, b));
                break;
            case 14:
                a = num(0, 7);
                b = num(0, 7);
                due("costs(" + a + ", " + b + ")", x.costs(a, b), m.costs(a, b));
                break;
            case 15:
                a = cell();
                b = num(0, 7);
                due("more(" + a + ", " + b + ")", x.more(a, b), m.more(a, b));
                break;
            case 16:
                a = num(0, 11);
                due("told(" + a + ")", x.told(a), m.told(a));
                break;
            default:
                a = num(0, 7);
                due("share(" + a + ")", x.share(a), m.share(a));
                break;
        }
    }

    private void asked(int pick) {
        int a, b;
        switch (pick) {
            case 18:
                a = num(0, Math.max(0, m.told(1) - 1));
                b = num(0, 5);
                due("grain(" + a + ", " + b + ")", x.grain(a, b), m.grain(a, b));
                break;
            case 19:
                a = random.nextBoolean() ? 1 + random.nextInt(5) : num(1, 36);
                due("large(" + a + ")", x.large(a), m.large(a));
                break;
            case 20:
                a = num(0, 1);
                b = num(1, 4);
                due("meets(" + a + ", " + b + ")", x.meets(a, b), m.meets(a, b));
                break;
            case 21:
                a = cell();
                b = cell();
                due("walls(" + a + ", " + b + ")", x.walls(a, b), m.walls(a, b));
                break;
            case 22:
                a = cell();
                due("gone(" + a + ")", x.gone(a), m.gone(a));
                break;
            case 23:
                a = num(0, 1);
                due("cold(" + a + ")", x.cold(a), m.cold(a));
                break;
            case 24:
                a = num(0, 2);
                due("best(" + a + ")", x.best(a), m.best(a));
                break;
            case 25:
                if (random.nextInt(8) == 0) {
                    a = num(0, 60);
                    b = num(0, 1);
                    due("fits(" + a + ", " + b + ")", x.fits(a, b), m.fits(a, b));
                }
                break;
            case 26:
                a = num(0, 1);
                due("odds(" + a + ")", x.odds(a), m.odds(a));
                break;
            case 27:
                a = num(0, 1);
                due("mean(" + a + ")", x.mean(a), m.mean(a));
                break;
            case 28:
                long per = random.nextBoolean() ? LONGS[random.nextInt(LONGS.length)]
                        : random.nextLong() >> random.nextInt(64);
                due("worth(" + per + ")", x.worth(per), m.worth(per));
                break;
            case 29:
                a = num(0, 2);
                due("after(" + a + ")", x.after(a), m.after(a));
                break;
            default:
                due("looked()", x.looked(), m.looked());
                break;
        }
    }

    private void rowsAndTapes(int pick) {
        int a, b, c;
        switch (pick) {
            case 31:
                a = random.nextInt(9) == 0 ? -1 : cell();
                b = random.nextBoolean() ? Math.max(0, m.of(a, 0)) : num(0, 7);
                due("see(" + a + ", " + b + ")", x.see(a, b), m.see(a, b));
                break;
            case 32:
                a = num(0, 4);
                b = a == 2 ? cell() : num(0, new int[] {60, 9, 35, 99, 99}[Math.floorMod(a, 5)]);
                due("event(" + a + ", " + b + ")", x.event(a, b), m.event(a, b));
                break;
            case 33:
                a = random.nextInt(9) == 0 ? -1 : cell();
                b = random.nextInt(4) > 0 ? Math.max(0, m.of(a, 0)) : num(0, 7);
                due("book(" + a + ", " + b + ")", x.book(a, b), m.book(a, b));
                break;
            case 34:
                if (random.nextInt(4) == 0) {
                    due("image()", x.image(), m.image());
                }
                break;
            case 35:
                if (random.nextInt(4) == 0) {
                    due("undo()", x.undo(), m.undo());
                }
                break;
            case 36:
                a = num(0, 3);
                due("count(" + a + ")", x.count(a), m.count(a));
                break;
            case 37:
                a = num(0, 5);
                b = num(-1, 4);
                c = num(0, 60);
                due("tape(" + a + ", " + b + ", " + c + ")", x.tape(a, b, c), m.tape(a, b, c));
                break;
            case 38:
                a = num(0, 5);
                b = num(0, 20);
                long v = LONGS[random.nextInt(LONGS.length)];
                due("item(" + a + ", " + b + ", " + v + ")", x.item(a, b, v), m.item(a, b, v));
                break;
            case 39:
                a = num(0, 5);
                b = num(0, 20);
                due("peek(" + a + ", " + b + ")", x.peek(a, b), m.peek(a, b));
                break;
            case 40:
                shift(num(0, 5), num(0, 20), num(0, 5), num(0, 20), num(0, 20));
                break;
            default:
                a = num(0, 5);
                b = num(0, 40);
                due("judge(" + a + ", " + b + ")", x.judge(a, b), m.judge(a, b));
                break;
        }
    }

    private void shift(int a, int b, int c, int d, int n) {
        due("shift(" + a + ", " + b + ", " + c + ", " + d + ", " + n + ")",
                x.shift(a, b, c, d, n), m.shift(a, b, c, d, n));
    }

    /** A tape that tells the marks, or all but one of them, from a place on. */
    private void judged() {
        int cells = m.told(6) * m.told(7);
        int from = random.nextInt(10);
        int length = Math.min(60, from + cells - (random.nextInt(3) == 0 ? 1 + random.nextInt(4) : 0));
        due("tape(0, 0, " + length + ")", x.tape(0, 0, length), m.tape(0, 0, length));
        for (int k = 0; k < cells; k++) {
            int place = from + k;
            long v = m.of(k, 0) + (random.nextInt(100) == 0 ? 1 : 0);
            due("item(0, " + place + ", " + v + ")", x.item(0, place, v), m.item(0, place, v));
        }
        due("judge(0, " + from + ")", x.judge(0, from), m.judge(0, from));
    }

    /** All that can be seen of the lattice, so that what is only asked shows if it changed it. */
    private void whole() {
        for (int k = 0; k < 36; k++) {
            for (int what = 0; what < 4; what++) {
                due("of(" + k + ", " + what + ")", x.of(k, what), m.of(k, what));
            }
        }
        for (int what = 0; what < 12; what++) {
            due("told(" + what + ")", x.told(what), m.told(what));
        }
    }
}
