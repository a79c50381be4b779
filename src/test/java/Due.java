import java.io.IOException;
import java.nio.file.Files;
import java.nio.file.Path;
import java.util.ArrayList;
import java.util.BitSet;
import java.util.List;
import java.util.Map;
import java.util.TreeMap;
import java.util.regex.Matcher;
import java.util.regex.Pattern;

/**
 * Answers that are due by a sentence of the document. A test quotes the sentence first, so that what
 * fails is told with the words that ask for it, and so that words that no test quotes can be found.
 */
final class Due {
    static final int NONE = -1, BAD = -2, STATE = -3, FULL = -4, NOWHERE = -5;
    static final int NOTHING = -11, CAST = -12, PLACE = -13, SIZE = -14;
    static final long NO = Long.MIN_VALUE;
    static final int MAX = Integer.MAX_VALUE, MIN = Integer.MIN_VALUE;

    /** The number under which the document's Terms are quoted; promises have their own. */
    static final int TERMS = 0;

    private final Map<Integer, String> words = new TreeMap<>();
    private final Map<Integer, BitSet> quoted = new TreeMap<>();
    private final List<String> unused = new ArrayList<>();
    private int part = TERMS;
    private String sentence = "";
    private int answersToSentence = 1;
    private int sentences = 0;
    private int asked = 0;
    private int wrong = 0;

    Due(Path document) throws IOException {
        String all = Files.readString(document);
        String terms = all.substring(all.indexOf("\n## Terms"), all.indexOf("\n## Promise 1:"))
                .replaceAll("(?m)^(## Terms|```.*|Ahead of the calls.*|The constants:.*)$", "");
        keep(TERMS, terms);
        Matcher m = Pattern.compile("(?m)^## Promise (\\d+): .*\\n\\n`[^`]*`: (.*)$").matcher(all);
        while (m.find()) {
            keep(Integer.parseInt(m.group(1)), m.group(2));
        }
    }

    private void keep(int number, String text) {
        words.put(number, text.replaceAll("\\s+", " ").trim());
        quoted.put(number, new BitSet());
    }

    /** The words by which the answers that follow are due. */
    void by(int number, String quote) {
        noteUnused();
        part = number;
        sentence = quote;
        answersToSentence = 0;
        sentences++;
        String text = words.getOrDefault(number, "");
        int at = text.indexOf(quote);
        if (at < 0) {
            fail("these words don't stand in the document");
        }
        while (at >= 0) {
            quoted.get(number).set(at, at + quote.length());
            at = text.indexOf(quote, at + 1);
        }
    }

    private void noteUnused() {
        if (answersToSentence == 0) {
            unused.add(place());
        }
    }

    private String place() {
        return (part == TERMS ? "Terms" : "promise " + part) + ", \"" + sentence + "\"";
    }

    private void fail(String what) {
        wrong++;
        System.out.println(place() + ": " + what);
    }

    void is(String what, long got, long want) {
        asked++;
        answersToSentence++;
        if (got != want) {
            fail(what + " answered " + got + ", due is " + want);
        }
    }

    void same(String what, String got, String want) {
        asked++;
        answersToSentence++;
        if (!got.equals(want)) {
            fail(what + " shows " + got + ", due is " + want);
        }
    }

    void marks(String what, GrainGrower x, String want) {
        same(what, Lattices.marksOf(x), want.replace(" ", ""));
    }

    void pins(String what, GrainGrower x, String want) {
        same(what, Lattices.pinsOf(x), want.replace(" ", ""));
    }

    void so(String what, boolean holds) {
        is(what, holds ? 1 : 0, 1);
    }

    /** Words of the document that no test has quoted; a letter or a digit makes a word. */
    private void lookForUnquoted() {
        for (Map.Entry<Integer, String> entry : words.entrySet()) {
            String text = entry.getValue();
            BitSet known = quoted.get(entry.getKey());
            StringBuilder rest = new StringBuilder();
            for (int i = 0; i < text.length(); i++) {
                rest.append(known.get(i) ? '\n' : text.charAt(i));
            }
            for (String run : rest.toString().split("\n+")) {
                if (run.matches(".*[A-Za-z0-9].*")) {
                    part = entry.getKey();
                    sentence = run.trim();
                    fail("no test quotes these words");
                }
            }
        }
    }

    boolean end() {
        noteUnused();
        for (String one : unused) {
            wrong++;
            System.out.println(one + ": is quoted, but no answer is looked at");
        }
        if (words.size() != 43) {
            wrong++;
            System.out.println("the document has 42 promises and Terms, but " + words.size() + " were found");
        }
        lookForUnquoted();
        System.out.println(sentences + " sentences, " + asked + " answers looked at, " + wrong
                + " are not as due");
        return wrong == 0;
    }
}
