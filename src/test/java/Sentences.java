import java.io.IOException;
import java.nio.file.Files;
import java.nio.file.Path;
import java.util.HashMap;
import java.util.Map;

/**
 * Tests that have a sentence of the document beside them: each sentence gets a new board, must stand in the document
 * word by word, and at the end no words of the sections that were gone through may be left without a test.
 */
abstract class Sentences {
    static final int NONE = -1, BAD = -2, STATE = -3, FULL = -4, NOTHING = -5;
    static final long NO = Long.MIN_VALUE;
    static final int LOWEST = Integer.MIN_VALUE, HIGHEST = Integer.MAX_VALUE;
    private static final int DESCRIPTION = 0;

    Counted x = new Counted();

    private final Map<Integer, String> sections = new HashMap<>();
    private final Map<Integer, boolean[]> tested = new HashMap<>();
    private int section;
    private String sentence = "";
    private int checked;
    private int wrong;
    private int sentences;

    Sentences() {
        String document = read();
        for (int n = 0; n <= 27; n++) {
            sections.put(n, sectionOf(document, n));
            tested.put(n, new boolean[sections.get(n).length()]);
        }
    }

    private static String read() {
        try {
            return Files.readString(Path.of("../shared/DOC.md"));
        } catch (IOException e) {
            throw new IllegalStateException("no document: " + e.getMessage());
        }
    }

    /** The words of a promise, without its title and signature, or of the description, with one space between them. */
    private static String sectionOf(String document, int n) {
        String title = n == DESCRIPTION ? "## Description\n" : "## Promise " + n + ":";
        int start = document.indexOf(title);
        int end = document.indexOf("\n## ", start + 1);
        String words = document.substring(start, end).replaceAll("\\s+", " ");
        if (n == DESCRIPTION) {
            return words.substring("## Description ".length());
        }
        int signature = words.indexOf('`');
        return words.substring(words.indexOf('`', signature + 1) + 1);
    }

    /** From here on the promise with this number is tested, or with 0 the description. */
    void section(int n) {
        section = n;
        says("");
    }

    /** What follows, on a new board, shows that this sentence holds. */
    void says(String words) {
        x = new Counted();
        sentence = words;
        if (words.isEmpty()) {
            return;
        }
        sentences++;
        String section = sections.get(this.section);
        boolean[] marks = tested.get(this.section);
        int at = section.indexOf(words);
        due("is there such a sentence", at >= 0 ? 1 : 0, 1);
        while (at >= 0) {
            for (int i = at; i < at + words.length(); i++) {
                marks[i] = true;
            }
            at = section.indexOf(words, at + 1);
        }
    }

    void due(String call, long got, long want) {
        checked++;
        if (got != want) {
            fail(call + " answered " + got + ", due is " + want);
        }
    }

    void dueText(String call, String got, String want) {
        checked++;
        if (!got.equals(want)) {
            fail(call + " answered " + got + ", due is " + want);
        }
    }

    void dueSet(String call, long got, int... squares) {
        checked++;
        if (got != set(squares)) {
            fail(call + " answered " + squaresOf(got) + ", due is " + squaresOf(set(squares)));
        }
    }

    private void fail(String what) {
        wrong++;
        System.out.println((section == DESCRIPTION ? "description" : "promise " + section) + ", \"" + sentence + "\": "
                + what);
    }

    /** Ends the program with 1 if an answer was wrong or words of these sections have no test. */
    void end(int firstSection, int lastSection) {
        for (section = firstSection; section <= lastSection; section++) {
            sentence = "";
            String left = untested();
            due("words without a test: " + left, left.length(), 0);
        }
        System.out.println(sentences + " sentences, " + checked + " answers checked, " + wrong + " wrong");
        if (wrong != 0) {
            System.exit(1);
        }
    }

    private String untested() {
        String words = sections.get(section);
        boolean[] marks = tested.get(section);
        StringBuilder left = new StringBuilder();
        for (int i = 0; i < words.length(); i++) {
            if (!marks[i] && Character.isLetterOrDigit(words.charAt(i))) {
                left.append(words.charAt(i));
            }
        }
        return left.toString();
    }

    void feed(String text) {
        for (int i = 0; i < text.length(); i++) {
            x.feed(text.charAt(i));
        }
    }

    int define(int type, String text) {
        feed(text);
        return x.define(type);
    }

    int setup(String text) {
        feed(text);
        return x.setup();
    }

    String text() {
        int length = x.text(-1);
        StringBuilder text = new StringBuilder();
        for (int i = 0; i < length; i++) {
            text.append((char) x.text(i));
        }
        return text.toString();
    }

    String told(int move) {
        int length = x.told(move, -1);
        StringBuilder text = new StringBuilder();
        for (int i = 0; i < length; i++) {
            text.append((char) x.told(move, i));
        }
        return text.toString();
    }

    /** All legal moves, told in their order. */
    String all() {
        int n = x.moves(3);
        StringBuilder text = new StringBuilder();
        for (int move = 0; move < n; move++) {
            text.append(move > 0 ? " " : "").append(told(move));
        }
        return text.toString();
    }

    /** The number of the legal move of a man from a square to another one, or -1. */
    int moveOf(int from, int to) {
        int n = x.moves(0);
        for (int move = 0; move < n; move++) {
            if (x.move(move, 1) == from && x.move(move, 2) == to) {
                return move;
            }
        }
        return -1;
    }

    int go(int from, int to) {
        return x.make(moveOf(from, to));
    }

    /** The squares to which the man on a square can go by legal moves. */
    long targets(int from) {
        long targets = 0;
        int n = x.moves(0);
        for (int move = 0; move < n; move++) {
            if (x.move(move, 1) == from) {
                targets |= 1L << x.move(move, 2);
            }
        }
        return targets;
    }

    static long set(int... squares) {
        long set = 0;
        for (int square : squares) {
            set |= 1L << square;
        }
        return set;
    }

    private static String squaresOf(long set) {
        StringBuilder squares = new StringBuilder("{");
        for (int square = 0; square < 64; square++) {
            if ((set >>> square & 1) != 0) {
                squares.append(squares.length() > 1 ? " " : "").append(square);
            }
        }
        return squares.append("}").toString();
    }
}
