/** The description, sentence by sentence: what each asks at its boundaries, worked out by hand. */
public final class DescriptionTest extends Sentences {
    private static final int DESCRIPTION = 0;

    public static void main(String[] args) {
        DescriptionTest test = new DescriptionTest();
        test.section(DESCRIPTION);
        test.testBoard();
        test.testTypes();
        test.testForms();
        test.testWords();
        test.testRepeated();
        test.testErrorPositions();
        test.testDirections();
        test.testReaches();
        test.testHops();
        test.testEnds();
        test.testRules();
        test.testCastlings();
        test.testPossible();
        test.testAttackedCastlings();
        test.testMoves();
        test.testHands();
        test.testLegal();
        test.testPositions();
        test.testDigest();
        test.testGames();
        test.testSamePositions();
        test.testSnapshot();
        test.testDoubtsOnCastlings();
        test.testDoubtsOnTypes();
        test.testDoubtsOnTexts();
        test.testDoubtsOnGames();
        test.testErrors();
        test.testQuestions();
        test.testConstants();
        test.end(DESCRIPTION, DESCRIPTION);
    }

    /** The squares to which a man of type 0 goes, alone on c3 (14) of six by six. */
    private long alone(String parts) {
        x.size(6, 6);
        define(0, parts);
        setup("6/6/6/2A3/6/6");
        return targets(14);
    }

    /** The squares to which a man of type 0 goes from a1 of six by one row with others, and an empty row above. */
    private long inRow(String parts, String row) {
        x.size(6, 2);
        define(0, parts);
        define(1, "mW");
        due("setup", Math.min(setup("6/" + row), 0), 0);
        return targets(0);
    }

    private static int digestOf(int... numbers) {
        int d = 17;
        for (int v : numbers) {
            d = 31 * d + v;
        }
        return d;
    }

    private void testBoard() {
        says("Board. The board has 2 to 6 columns and 2 to 6 rows, initially 5 and 5.");
        due("columns", x.count(1), 5);
        due("rows", x.count(2), 5);
        for (int columns = 1; columns <= 7; columns++) {
            for (int rows = 1; rows <= 7; rows++) {
                boolean fits = columns >= 2 && columns <= 6 && rows >= 2 && rows <= 6;
                due("size " + columns + " " + rows, x.size(columns, rows), fits ? columns * rows : BAD);
            }
        }
        says("The square in column x and row y, both from 0, has the number y * columns + x.");
        x.size(3, 4);
        define(0, "W");
        setup("2a/A2/3/1A1");
        due("column 1, row 0", x.at(1), 0);
        due("column 0, row 2", x.at(6), 0);
        due("column 2, row 3", x.at(11), 6);
        due("the men", x.count(0), 3);
        says("White, side 0, moves forward to higher rows, Black, side 1, to lower ones.");
        x.size(3, 3);
        define(0, "fW");
        setup("3/AaA/3");
        dueSet("White", targets(3) | targets(5), 6, 8);
        x.side(1);
        dueSet("Black", targets(4), 1);
        says("The far row of a side is the last one forward.");
        x.size(2, 3);
        define(0, "fW");
        define(1, "W");
        x.type(0, 1, 1);
        setup("2/A1/1A");
        dueText("White's", all(), "Ab1-b2 Aa2-a3=B");
        setup("a1/1a/2");
        x.side(1);
        dueText("Black's", all(), "ab2-b1=b aa3-a2");
    }

    private void testTypes() {
        says("Types. There are 6 types, numbered from 0; their letters are A to F for White's men "
                + "and a to f for Black's.");
        due("type -1", define(-1, "W"), NONE);
        for (int type = 0; type < 6; type++) {
            due("type " + type, define(type, type == 0 ? "" : "W"), 1);
        }
        due("type 6", define(6, "W"), NONE);
        x.feed('x');
        x.define(0);
        x.size(6, 2);
        due("all letters", setup("abcdef/ABCDEF"), 12);
        for (int square = 0; square < 12; square++) {
            due("at " + square, x.at(square), square);
        }
        for (String letter : new String[] {"@", "G", "`", "g", "Z", "z"}) {
            due("letter " + letter, setup(letter + "5/6"), -100);
        }
        says("A type is undefined at first.");
        for (int type = 0; type < 6; type++) {
            due("parts of " + type, x.property(type, 0), NOTHING);
            due("White's letter", setup((char) ('A' + type) + "4/5/5/5/5"), -100);
            due("Black's letter", setup((char) ('a' + type) + "4/5/5/5/5"), -100);
        }
        says("It is defined by a text on the tape, which holds at most 60 bytes: one of the words king, queen, rook, "
                + "bishop, knight, pawn, cannon, or text = part { part } part = { modifier } atom [ digit ]");
        String[] good = {"king", "queen", "rook", "bishop", "knight", "pawn", "cannon", "K", "m".repeat(59) + "W"};
        for (String text : good) {
            due(text, Math.min(define(0, text), 0), 0);
        }
        due("a byte too many", define(0, "m".repeat(59) + "WW"), 1);
        due("two words", define(0, "kingking"), -104);
        due("a word and a part", define(0, "rookW"), -104);
        due("a part and a word", define(0, "Wrook"), -101);
        due("a word with a digit", define(0, "king0"), -104);
        due("a word with a modifier", define(0, "mking"), -101);
        due("nothing", define(0, ""), -100);
    }

    private void testForms() {
        says("Here { } means that the part may be repeated or left out, [ ] that it may be left out.");
        due("only an atom", define(0, "W"), 1);
        due("one modifier", define(0, "mW"), 1);
        due("two modifiers", define(0, "mfW"), 1);
        due("a digit", define(0, "W2"), 1);
        due("two digits", define(0, "W22"), -102);
        due("two parts", define(0, "WF"), 2);
        due("only a modifier", define(0, "m"), -101);
        due("only a digit", define(0, "2"), -100);
        due("a digit before the atom", define(0, "m2W"), -101);
        says("The modifiers are m, c, f, b, s and h; the digit is 0 or 2 to 5; the atoms are W, F, D, N, A, C "
                + "with the steps (0, 1), (1, 1), (0, 2), (1, 2), (2, 2), (1, 3), and K, which stands for W and F "
                + "with the same modifiers and digit.");
        for (int sign = 0; sign < 128; sign++) {
            x.feed(sign);
            int due = "mcfbsh".indexOf(sign) >= 0 || "kqrp".indexOf(sign) >= 0 ? -101 : -100;
            int got = x.define(1);
            due("byte " + sign, got, "WFDNACK".indexOf(sign) >= 0 ? 1 : due);
        }
        x = new Counted();
        for (int sign = '/'; sign <= ':'; sign++) {
            x.feed('W');
            x.feed(sign);
            boolean digit = sign == '0' || sign >= '2' && sign <= '5';
            due("W and the byte " + sign, x.define(0), digit ? 1 : -101);
        }
        dueSet("W", alone("W"), 8, 13, 15, 20);
        dueSet("F", alone("F"), 7, 9, 19, 21);
        dueSet("D", alone("D"), 2, 12, 16, 26);
        dueSet("N", alone("N"), 1, 3, 6, 10, 18, 22, 25, 27);
        dueSet("A", alone("A"), 0, 4, 24, 28);
        dueSet("C", alone("C"), 11, 23, 31, 33);
        setup("6/6/3A2/6/6/6");
        dueSet("C to the other sides", targets(21), 2, 4, 12, 24);
        x = new Counted();
        dueSet("K", alone("K"), 8, 13, 15, 20, 7, 9, 19, 21);
        dueSet("fK2", alone("fK2"), 20, 26, 19, 24, 21, 28);
        dueSet("cK", alone("cK"));
        dueSet("sK0", alone("sK0"), 12, 13, 15, 16, 17);
    }

    private void testWords() {
        says("The words mean K; K0; W0; F0; N; mfWcfF; mW0chW0.");
        String[] words = {"king", "queen", "rook", "bishop", "knight", "pawn", "cannon"};
        String[] meanings = {"K", "K0", "W0", "F0", "N", "mfWcfF", "mW0chW0"};
        int[][] goes = {{7, 8, 9, 13, 15, 19, 20, 21},
            {0, 4, 7, 8, 9, 12, 13, 15, 16, 19, 20, 21, 24, 26, 28, 35}, {8, 12, 13, 15, 16, 20, 26},
            {0, 4, 7, 9, 19, 21, 24, 28, 35}, {1, 3, 6, 10, 18, 22, 25, 27}, {20}, {8, 12, 13, 15, 20, 32}};
        for (int i = 0; i < words.length; i++) {
            x = new Counted();
            x.size(6, 6);
            define(1, "mW");
            define(0, words[i]);
            setup("2b3/2b3/6/2A1b1/6/2B3");
            dueSet(words[i], targets(14), goes[i]);
            define(0, meanings[i]);
            dueSet(meanings[i], targets(14), goes[i]);
        }
        x = new Counted();
        define(0, "pawn");
        setup("5/1aaa1/2A2/5/5");
        dueSet("a pawn takes", targets(12), 16, 18);
        says("A text has at most 6 parts.");
        due("six", define(0, "mW0mW0mW0mW0mW0mW0"), 6);
        due("seven", define(0, "mW0mW0mW0mW0mW0mW0mW0"), -118);
        due("six with K", define(0, "KKKKKK"), 6);
        due("seven with K", define(0, "KKKKKKK"), -106);
        due("six longer ones", define(0, "mcfbshfbW0".repeat(6)), 6);
    }

    private void testRepeated() {
        says("A modifier may stand several times, without a further effect.");
        dueSet("mmW", alone("mmW"), 8, 13, 15, 20);
        dueSet("ffW", alone("ffW"), 20);
        dueSet("bsbsW", alone("bsbsW"), 8, 13, 15);
        dueSet("hhW0", inRow("hhW0", "A1B3"), 3, 4, 5);
        dueSet("ccW", inRow("ccW", "Ab4"), 1);
        dueSet("59 times", inRow("s".repeat(59) + "W", "A5"), 1);
        says("A man of an undefined type has no parts.");
        x.size(2, 2);
        x.rule(0, 1);
        x.hand(0, 5, 1);
        due("a drop", x.make(0), 1);
        x.side(0);
        due("there it is", x.at(0), 5);
        due("moves", x.moves(3), 0);
        dueSet("attacks", x.attacked(0));
        due("proof", x.proof(0, 1), -7);
        due("parts", x.property(5, 0), NOTHING);
        due("directions", x.property(5, 1), 0);
        due("most moves", x.property(5, 5), 0);
    }

    private void testErrorPositions() {
        says("The error position of a text is the index of its first byte with which neither a word nor such a text "
                + "can continue, or its length if it ends too early; a seventh part is wrong at its first byte.");
        String[] texts = {"", "k", "kin", "kinx", "kingx", "kimg", "b", "bi", "bisho", "bishom", "bishW", "bm", "bW",
            "c", "ca", "cano", "cannonW", "cm", "qW", "roo", "roof", "p", "pawned", "n", "knightm", "m", "mb", "mbi",
            "Wb", "Wbi", "Wc", "Wca", "W1", "W6", "W0", "W00", "m0", "WFDNACW", "WFDNACmm", "WFDNAC2m", "WFDNAC22",
            "WFDNA22", "WFDNACx", "WFDNAx", "w", "King", "\0", "W\0", "W\177"};
        int[] answers = {-100, -101, -103, -103, -104, -102, -101, -102, -105, -105, -104, -102, 1,
            -101, -102, -103, -106, -102, -101, -103, -103, -101, -104, -100, -106, -101, -102, -102,
            -102, -102, -102, -102, -101, -101, 1, -102, -101, -106, -106, -107, -107,
            -106, -106, -105, -100, -101, -100, -101, -101};
        for (int i = 0; i < texts.length; i++) {
            due("\"" + texts[i] + "\"", define(0, texts[i]), answers[i]);
        }
    }

    private void testDirections() {
        says("A part describes moves: its directions are the step, with columns and rows exchanged or not, and with "
                + "any signs; with f only those forward, with b those backward, with s those that stay in the row, "
                + "and with several of f, b, s those that are allowed by one of them.");
        String[] texts = {"W", "F", "D", "N", "A", "C", "K", "fW", "bW", "sW", "fF", "bF", "sF", "fN", "bN", "sN",
            "fD", "sD", "fC", "sC", "fK", "bK", "sK", "fbW", "fsW", "bsK", "fbsK", "fbN", "fbF", "sfA", "bsD"};
        int[] directions = {4, 4, 4, 8, 4, 8, 8, 1, 1, 2, 2, 2, 0, 4, 4, 0,
            1, 2, 4, 0, 3, 3, 2, 2, 3, 5, 8, 8, 4, 2, 3};
        for (int i = 0; i < texts.length; i++) {
            define(0, texts[i]);
            due(texts[i], x.property(0, 1), directions[i]);
        }
        x = new Counted();
        dueSet("fN", alone("fN"), 18, 22, 25, 27);
        dueSet("bN", alone("bN"), 1, 3, 6, 10);
        dueSet("fC", alone("fC"), 23, 31, 33);
        dueSet("bC", alone("bC"), 11);
        dueSet("sD", alone("sD"), 12, 16);
        dueSet("sF", alone("sF"));
        dueSet("bsW", alone("bsW"), 8, 13, 15);
        x = new Counted();
        x.size(6, 6);
        define(0, "fN");
        setup("6/6/6/2a3/6/6");
        x.side(1);
        dueSet("Black's fN", targets(14), 1, 3, 6, 10);
        define(0, "bsW");
        x.side(1);
        dueSet("Black's bsW", targets(14), 13, 15, 20);
    }

    private void testReaches() {
        says("A man moves 1 time the direction, or, with a digit from 2 to 5, up to so many times, with 0 any number "
                + "of times, where it comes over the squares that it reaches before the last one.");
        dueSet("1", inRow("W", "A5"), 1, 6);
        dueSet("2", inRow("W2", "A5"), 1, 2, 6);
        dueSet("3", inRow("W3", "A5"), 1, 2, 3, 6);
        dueSet("4", inRow("W4", "A5"), 1, 2, 3, 4, 6);
        dueSet("5", inRow("W5", "A5"), 1, 2, 3, 4, 5, 6);
        dueSet("0", inRow("W0", "A5"), 1, 2, 3, 4, 5, 6);
        x = new Counted();
        dueSet("D2", inRow("D2", "A5"), 2, 4);
        dueSet("D0 over what it does not reach", inRow("D0", "AB1B2"), 2, 4);
        dueSet("D0 not over what it reaches", inRow("D0", "A1b3"), 2);
        dueSet("D not over what it does not reach", inRow("D", "Ab4"), 2);
        x.size(6, 6);
        define(0, "N2");
        setup("6/6/6/6/6/A5");
        dueSet("N2", targets(0), 8, 13, 16, 26);
        define(0, "C0");
        dueSet("C0", targets(0), 9, 19);
        setup("A5/6/6/6/6/6");
        define(0, "F0");
        dueSet("F0 to the last column and row", targets(30), 25, 20, 15, 10, 5);
    }

    private void testHops() {
        says("All of these must be on the board and empty; but with h exactly one of them must have a man, "
                + "of whatever side, and all others be empty.");
        dueSet("nothing before the other man", inRow("sW0", "A2b2"), 1, 2, 3);
        dueSet("nothing before its own man", inRow("sW0", "A2B2"), 1, 2);
        dueSet("a man beside it", inRow("sW0", "Ab4"), 1);
        dueSet("over the other's man", inRow("shW0", "A1b3"), 3, 4, 5);
        dueSet("over its own man", inRow("shW0", "A1B3"), 3, 4, 5);
        dueSet("over none", inRow("shW0", "A5"));
        dueSet("over one, not two", inRow("shW0", "A1b1b1"), 3, 4);
        dueSet("over one on its own man", inRow("shW0", "A1b1B1"), 3);
        dueSet("two together", inRow("shW0", "A1bb2"), 3);
        x = new Counted();
        dueSet("one step has no square to hop over", inRow("shW", "Ab4"));
        dueSet("two steps have one", inRow("shW2", "Ab4"), 2);
        dueSet("it isn't farther", inRow("shW2", "A1b3"));
        dueSet("five steps have four", inRow("shW5", "A3b1"), 5);
        dueSet("behind the last", inRow("shW0", "A4b"));
        dueSet("a leap over the square between hops over nothing", inRow("shD2", "Ab4"));
        dueSet("it hops over what it reaches", inRow("shD2", "A1b3"), 4);
        says("The last square must be on the board.");
        x.size(2, 6);
        define(0, "NCAD");
        setup("2/2/2/2/2/A1");
        dueSet("a narrow board", targets(0), 4, 5, 7);
        define(0, "sW");
        setup("2/2/2/2/1A/2");
        dueSet("not round the right edge", targets(3), 2);
        setup("2/2/2/2/A1/2");
        dueSet("not round the left edge", targets(2), 3);
        define(0, "fW");
        setup("1A/2/2/2/2/2");
        dueSet("not over the upper edge", targets(11));
        define(0, "bW");
        setup("2/2/2/2/2/A1");
        dueSet("not over the lower edge", targets(0));
    }

    private void testEnds() {
        says("A move of the part goes there if it is empty and the part has m or not c, or if a man of the other side "
                + "is there and the part has c or not m.");
        String[] parts = {"sW", "msW", "csW", "mcsW"};
        int[][] empty = {{1}, {1}, {}, {1}};
        int[][] others = {{1}, {}, {1}, {1}};
        for (int i = 0; i < parts.length; i++) {
            dueSet(parts[i] + " to an empty square", inRow(parts[i], "A5"), empty[i]);
            dueSet(parts[i] + " to the other's man", inRow(parts[i], "Ab4"), others[i]);
            dueSet(parts[i] + " to its own man", inRow(parts[i], "AB4"));
        }
        says("A man attacks a square if a part of it could go there if a man of the other side were there.");
        inRow("mW", "A5");
        dueSet("mW", x.attacked(0));
        inRow("cW", "A5");
        dueSet("cW", x.attacked(0), 1, 6);
        inRow("W", "AB4");
        dueSet("its own man, too", x.attacked(0), 1, 6);
        inRow("shW0", "AB1b2");
        dueSet("over one man", x.attacked(0), 2, 3);
        inRow("shW0", "A5");
        dueSet("a man there is none to hop over", x.attacked(0));
        inRow("sW0", "A2b2");
        dueSet("up to the other's man", x.attacked(0), 1, 2, 3);
    }

    private void testRules() {
        says("Rules. They are: 0 drops, 0 or 1, initially 0; 1 the royal rule, 0 to 2, initially 0.");
        due("drops", x.count(9), 0);
        due("royal rule", x.count(10), 0);
        due("drops 1", x.rule(0, 1), 0);
        due("drops 2", x.rule(0, 2), BAD);
        due("drops -1", x.rule(0, -1), BAD);
        due("royal rule 2", x.rule(1, 2), 0);
        due("royal rule 3", x.rule(1, 3), BAD);
        due("royal rule -1", x.rule(1, -1), BAD);
        says("Each type is royal or not, initially not, and has a promotion type or none, initially none.");
        for (int type = 0; type < 6; type++) {
            due("royal", x.property(type, 2), 0);
            due("promotion", x.property(type, 3), -1);
        }
        says("With the royal rule 0, a side is safe if none of its royal men is attacked by the other side; with 1, "
                + "if not all of its royal men are attacked, or it has none; with 2 always.");
        x.size(3, 3);
        define(0, "mF");
        define(1, "cW");
        x.type(0, 0, 1);
        String[] positions = {"3/bbb/A1A", "3/1bb/A1A", "3/1b1/A1A", "3/bbb/1b1"};
        int[][] safe = {{0, 0, 1}, {0, 1, 1}, {1, 1, 1}, {1, 1, 1}};
        for (int i = 0; i < positions.length; i++) {
            for (int rule = 0; rule <= 2; rule++) {
                x.rule(1, rule);
                setup(positions[i]);
                // No man can go anywhere: Black's only capture, White's only go slantwise, where men stand.
                due(positions[i] + " by rule " + rule, safeOf(), safe[i][rule]);
            }
        }
    }

    /** 1 if White is safe: if it can drop a man where nothing changes. */
    private int safeOf() {
        x.rule(0, 1);
        x.hand(0, 5, 1);
        int n = x.moves(2);
        int safe = 0;
        for (int move = x.moves(0); move < x.moves(0) + n; move++) {
            safe |= x.move(move, 2) == 8 ? 1 : 0;
        }
        return safe;
    }

    private void castlingMen() {
        x.size(6, 2);
        define(0, "W");
        define(1, "W0");
        define(2, "D");
        x.type(0, 0, 1);
    }

    /** The number of castlings in this position, with White to move. */
    private int castlings(String position) {
        due("setup " + position, Math.min(setup(position), 0), 0);
        return x.moves(1);
    }

    private void testCastlings() {
        says("Castlings. There are 4 slots for castlings.");
        castlingMen();
        setup("6/A4B");
        for (int slot = 0; slot < 4; slot++) {
            due("slot " + slot, x.castle(slot, 0, 0, 2, 5, 1), slot + 1);
        }
        due("slot -1", x.castle(-1, 0, 0, 2, 5, 1), NONE);
        due("slot 4", x.castle(4, 0, 0, 2, 5, 1), NONE);
        due("each of them", x.moves(1), 4);
        says("A castling consists of a side, the squares r and s from and to which the first man goes, and the "
                + "squares p and q from and to which the second one goes; all are in the same row, r is not p, "
                + "and s is not q.");
        castlingMen();
        x.castle(0, 0, 1, 4, 5, 0);
        castlings("6/1A3B");
        due("made", x.make(x.moves(0)), 1);
        dueText("r to s, p to q", text(), "6/B3A1");
        due("s is in another row", x.castle(0, 0, 0, 8, 5, 1), BAD);
        due("the last of a row and the first of the next", x.castle(0, 0, 5, 6, 4, 3), BAD);
        due("r is p", x.castle(0, 0, 0, 1, 0, 2), BAD);
        due("s is q", x.castle(0, 0, 0, 2, 5, 2), BAD);
        due("r is s and p is q", x.castle(0, 0, 0, 0, 5, 5), 1);
        due("r is q and p is s", x.castle(0, 0, 0, 5, 5, 0), 1);
        says("It has its right until a man goes from r or p, or to one of them, by a move, drops and castlings "
                + "included.");
        castlingMen();
        x.castle(0, 0, 0, 2, 5, 3);
        int[][] moves = {{0, 6}, {0, 1}, {5, 4}, {5, 11}};
        for (int[] move : moves) {
            castlings("6/A4B");
            due("made", go(move[0], move[1]), 1);
            due("from " + move[0], x.count(7), 0);
            due("the castling stays", x.count(6), 1);
        }
        castlings("5B/A5");
        due("to p", go(11, 5), 1);
        due("right", x.count(7), 0);
        castlings("A5/6");
        due("to r", go(6, 0), 1);
        due("right", x.count(7), 0);
        lostByOthers();
    }

    private void lostByOthers() {
        castlings("5B/A5");
        due("to neither", go(11, 10), 1);
        due("right", x.count(7), 1);
        due("s", x.castle(0, 0, 0, 1, 5, 4), 1);
        castlings("1B4/6");
        due("to s", go(7, 1), 1);
        due("right", x.count(7), 1);
        x = new Counted();
        castlingMen();
        x.rule(0, 1);
        x.castle(0, 0, 0, 2, 5, 3);
        for (int square = 0; square < 6; square++) {
            castlings("6/6");
            x.hand(0, 1, 1);
            due("a drop", x.make(square), 1);
            due("on " + square, x.count(7), square == 0 || square == 5 ? 0 : 1);
        }
        x.castle(0, 0, 0, 2, 5, 3);
        x.castle(1, 0, 2, 1, 4, 3);
        x.castle(2, 1, 3, 4, 1, 0);
        x.castle(3, 1, 4, 2, 1, 3);
        castlings("6/A4B");
        due("a castling", x.make(x.moves(0)), 1);
        due("only one is untouched", x.count(7), 1);
        x.back();
        due("all rights are back", x.count(7), 4);
        x.castle(0, 0, 6, 8, 11, 9);
        x.castle(1, 0, 0, 1, 5, 4);
        x.castle(2, 0, 7, 7, 10, 10);
        x.castle(3, 0, 2, 1, 3, 0);
        castlings("A4B/6");
        due("a castling in the other row", x.make(x.moves(0)), 1);
        due("which touches no other right", x.count(7), 3);
        x.castle(0, 0, 0, 2, 5, 3);
        int[] squares = {0, 2, 5, 3, 1, 4};
        for (int square : squares) {
            x.castle(1, 0, 7, 7, 8, 8);
            int other = square == 1 ? 4 : 1;
            x.castle(2, 1, square, square, other, other);
            x.castle(3, 1, other, other, square, square);
            castlings("6/A4B");
            due("the castling", x.make(x.moves(0)), 1);
            due("a right on the square " + square, x.count(7), square == 1 || square == 4 ? 3 : 1);
        }
    }

    private void testPossible() {
        says("It is possible if the side has to move,");
        castlingMen();
        x.castle(0, 0, 1, 3, 5, 2);
        due("it has", castlings("6/1A3B"), 1);
        x.side(1);
        due("it has not", x.moves(1), 0);
        says("it has its right,");
        castlingMen();
        x.castle(0, 0, 1, 3, 5, 2);
        castlings("6/1A3B");
        due("away", go(1, 7), 1);
        x.side(0);
        due("and back", go(7, 1), 1);
        x.side(0);
        dueText("all stand as before", text(), "6/1A3B");
        due("it has not", x.moves(1), 0);
        says("a royal man of the side is on r and another man of the side on p,");
        castlingMen();
        x.castle(0, 0, 1, 3, 5, 2);
        String[] positions = {"6/1A3B", "6/1A3A", "6/1A3C", "6/1B3B", "6/5B", "6/1A4", "6/1a3B", "6/1A3b"};
        int[] possible = {1, 1, 1, 0, 0, 0, 0, 0};
        for (int i = 0; i < positions.length; i++) {
            due(positions[i], castlings(positions[i]), possible[i]);
        }
        says("all squares between r and p are empty,");
        castlingMen();
        x.castle(0, 0, 1, 2, 5, 4);
        due("empty", castlings("6/1A3B"), 1);
        due("the first", castlings("6/1AC2B"), 0);
        due("between", castlings("6/1A1C1B"), 0);
        due("the last", castlings("6/1A2CB"), 0);
        due("a man of the other side", castlings("6/1A1c1B"), 0);
        due("beside them", castlings("6/CA3B"), 1);
        x.castle(0, 0, 5, 4, 1, 2);
        due("the other way", castlings("6/1B3A"), 1);
        due("the other way, a man between", castlings("6/1B1C1A"), 0);
        x.castle(0, 0, 1, 0, 2, 5);
        due("none is between", castlings("6/1AB3"), 1);
        says("s and q are empty or r or p,");
        castlingMen();
        x.castle(0, 0, 2, 0, 3, 5);
        due("empty", castlings("6/2AB2"), 1);
        due("s is not", castlings("6/C1AB2"), 0);
        due("q is not", castlings("6/2AB1C"), 0);
        due("a square on the way is not", castlings("6/1CABC1"), 1);
        x.castle(0, 0, 2, 3, 3, 2);
        due("s is p and q is r", castlings("6/2AB2"), 1);
        x.castle(0, 0, 2, 2, 3, 3);
        due("s is r and q is p", castlings("6/2AB2"), 1);
    }

    private void testAttackedCastlings() {
        says("and no square from r to s, both included, is attacked by the other side.");
        castlingMen();
        define(2, "cfW");
        x.castle(0, 0, 1, 3, 5, 2);
        boolean[] free = {true, false, false, false, true, true};
        for (int column = 0; column < 6; column++) {
            String row = (column > 0 ? "" + column : "") + "c" + (column < 5 ? "" + (5 - column) : "");
            due("from the column " + column, castlings(row + "/1A3B"), free[column] ? 1 : 0);
        }
        x.castle(0, 0, 4, 2, 1, 3);
        free = new boolean[] {true, true, false, false, false, true};
        for (int column = 0; column < 6; column++) {
            String row = (column > 0 ? "" + column : "") + "c" + (column < 5 ? "" + (5 - column) : "");
            due("to the left, from the column " + column, castlings(row + "/1B2A1"), free[column] ? 1 : 0);
        }
        x = new Counted();
        castlingMen();
        define(2, "cfW");
        x.castle(0, 0, 1, 1, 5, 2);
        due("only r", castlings("1c4/1A3B"), 0);
        due("beside r", castlings("2c3/1A3B"), 1);
        x.castle(0, 1, 7, 9, 11, 8);
        for (int column = 0; column < 6; column++) {
            String row = (column > 0 ? "" + column : "") + "C" + (column < 5 ? "" + (5 - column) : "");
            setup("1a3b/" + row);
            x.side(1);
            due("Black's, from the column " + column, x.moves(1), column >= 1 && column <= 3 ? 0 : 1);
        }
    }

    private void testMoves() {
        says("Moves. A move is one of a man to a square by a part, whereby the man of the other side there is "
                + "captured; or a castling; or, with drops, putting a man of a type from the hand of the side to move "
                + "on an empty square, which is not in its far row if the type has a promotion type.");
        x.size(2, 3);
        define(0, "W");
        setup("2/a1/A1");
        due("a capture", go(0, 2), 1);
        due("one man is left", x.count(0), 1);
        due("White's", x.at(2), 0);
        due("it has gone", x.at(0), NOTHING);
        setup("2/2/A1");
        x.hand(0, 1, 1);
        x.hand(1, 2, 1);
        due("without drops", x.moves(2), 0);
        x.rule(0, 1);
        due("on each empty square", x.moves(2), 5);
        x.type(1, 1, 0);
        due("not in the far row", x.moves(2), 3);
        x.side(1);
        due("Black's", x.moves(2), 5);
        x.type(2, 1, 2);
        due("not in Black's far row", x.moves(2), 4);
        says("A man whose type has a promotion type, and that goes to the far row of its side by a part, becomes one "
                + "of the promotion type.");
        x.size(2, 3);
        define(0, "W");
        define(1, "F");
        x.type(0, 1, 1);
        setup("1a/A1/b1");
        dueText("to the far row, and not beyond", all(), "Aa2xa1 Aa2-b2 Aa2-a3=B");
        setup("A1/2/2");
        dueText("within the far row", all(), "Aa3-a2 Aa3-b3=B");
        due("made", go(4, 5), 1);
        due("it has become one", x.at(5), 1);
        setup("2/a1/2");
        x.side(1);
        dueText("Black's", all(), "aa2-a1=b aa2-b2 aa2-a3");
        x.size(2, 2);
        x.type(1, 0, 1);
        x.castle(0, 0, 2, 3, 3, 2);
        x.type(0, 0, 1);
        setup("AA/2");
        dueText("a castling in the far row", told(x.moves(0)), "O0");
        due("is none by a part", x.move(x.moves(0), 5), 0);
    }

    private void testHands() {
        says("With drops, a captured man comes into the hand of the side that captures, which holds at most 9 men of "
                + "each type; what is too much is lost.");
        x.size(2, 2);
        define(0, "W");
        define(1, "W");
        setup("b1/A1");
        go(0, 2);
        due("without drops", x.count(21), 0);
        x.rule(0, 1);
        for (int held = 0; held <= 9; held++) {
            setup("b1/A1");
            x.hand(0, 1, held);
            go(0, 2);
            due("with " + held, x.count(21), Math.min(held + 1, 9));
            due("Black's hand", x.count(27), 0);
            x.back();
            due("taken back", x.count(21), held);
        }
        setup("B1/a1");
        x.side(1);
        go(0, 2);
        due("Black's", x.count(27), 1);
        due("White's", x.count(21), 0);
        due("another type", x.count(26), 0);
        setup("A1/a1");
        x.side(1);
        go(0, 2);
        due("the first type", x.count(26), 1);
        setup("2/a1");
        x.side(1);
        go(0, 2);
        for (int what = 20; what < 32; what++) {
            due("without a capture " + what, x.count(what), 0);
        }
    }

    private void testLegal() {
        says("A move is legal if the side that makes it is safe then.");
        x.size(3, 3);
        define(0, "W");
        define(1, "W0");
        x.type(0, 0, 1);
        setup("2b/3/A1B");
        dueText("not into an attack, nor away from before it", all(), "Aa1-b1 Aa1-a2 Bc1-b1 Bc1-c2 Bc1xc3");
        setup("b2/3/AB1");
        dueText("out of an attack", all(), "");
        setup("b2/3/A2");
        dueText("out of an attack", all(), "Aa1-b1");
        x.rule(0, 1);
        x.hand(0, 5, 1);
        dueText("a drop between", all(), "Aa1-b1 F@a2");
        x.size(6, 2);
        setup("6/b1BA2");
        x.castle(0, 0, 3, 3, 2, 4);
        dueText("no castling that uncovers an attack", all(), "Bc1xa1 Bc1-b1 Ad1-e1 Ad1-d2");
        says("The legal moves are numbered from 0: those of men, in ascending order of the squares from which, then "
                + "to which they go; then the castlings in ascending order of the slots; then the drops, in ascending "
                + "order of the types, then of the squares.");
        x.size(3, 2);
        define(0, "W");
        define(1, "FW");
        x.type(0, 0, 1);
        x.rule(0, 1);
        setup("3/A1B");
        x.hand(0, 5, 1);
        x.hand(0, 1, 2);
        x.castle(3, 0, 0, 1, 2, 0);
        x.castle(1, 0, 0, 0, 2, 1);
        dueText("all", all(), "Aa1-b1 Aa1-a2 Bc1-b1 Bc1-b2 Bc1-c2 O1 O3 B@b1 B@a2 B@b2 B@c2 F@b1 F@a2 F@b2 F@c2");
        says("After a move, the other side has to move.");
        x.size(2, 2);
        define(0, "W");
        x.rule(0, 1);
        x.type(0, 0, 1);
        setup("2/AA");
        due("a man", go(0, 2) + x.count(3), 2);
        setup("2/AA");
        x.castle(0, 0, 0, 1, 1, 0);
        due("a castling", x.make(x.moves(0)), 1);
        due("Black", x.count(3), 1);
        setup("2/AA");
        x.hand(0, 0, 1);
        due("a drop", x.make(x.moves(0) + x.moves(1)), 1);
        due("Black", x.count(3), 1);
        x.hand(1, 1, 1);
        due("Black's", x.make(x.moves(0)), 1);
        due("White", x.count(3), 0);
    }

    private void testPositions() {
        says("Positions. A position is read from a text: the rows from the highest to the lowest one, with / between "
                + "two of them; a row consists of letters of men and digits 1 to 6 for so many empty squares, and has "
                + "just as many squares as there are columns.");
        x.size(6, 2);
        define(0, "W");
        due("the highest row first", setup("A5/5a"), 2);
        due("above", x.at(6), 0);
        due("below", x.at(5), 6);
        String[] rows = {"6", "15", "24", "33", "42", "51", "111111", "A5", "5A", "AAAAAA", "0A5", "7", "61", "16",
            "5", "AAAAAAA", "", "6/"};
        int[] wrong = {-1, -1, -1, -1, -1, -1, -1, -1, -1, -1, 0, 0, 1, 1, 1, 6, 0, 2};
        for (int i = 0; i < rows.length; i++) {
            int answer = setup(rows[i] + "/6");
            due(rows[i], answer < 0 ? -100 - answer : -1, wrong[i]);
        }
        due("a row too few", setup("6"), -101);
        due("a row too many", setup("6/6/6"), -103);
        due("no / at the end", setup("6/6/"), -103);
        due("none at the beginning", setup("/6/6"), -100);
        says("The text of a position has this form, with the greatest possible digits.");
        x.size(6, 2);
        define(0, "W");
        setup("111111/2121");
        dueText("none", text(), "6/6");
        setup("A11111/1111A1");
        dueText("one", text(), "A5/4A1");
        setup("A1A1A1/aAaAaA");
        dueText("many", text(), "A1A1A1/aAaAaA");
        due("it can be read again", setup(text()), 9);
    }

    private void testDigest() {
        says("The digest of a position is found by d being 17 at first, and then 31 * d + v, with overflow, for the "
                + "numbers v: for each square, 0 if it is empty, otherwise 1 plus the type plus 6 times the side of "
                + "the man; the numbers of men in the hands, White's first, by types; the side to move; and for each "
                + "slot 1 if there is a castling with its right, otherwise 0.");
        due("empty", x.digest(), 962091729);
        x.size(2, 2);
        for (int type = 0; type < 6; type++) {
            define(type, "W");
        }
        setup("fF/Aa");
        due("the men", x.digest(), digestOf(1, 7, 12, 6, 0, 0, 0, 0, 0, 0, 0, 0, 0, 0, 0, 0, 0, 0, 0, 0, 0));
        for (int i = 0; i < 12; i++) {
            x.hand(i / 6, i % 6, i % 10);
        }
        x.side(1);
        due("the hands", x.digest(), digestOf(1, 7, 12, 6, 0, 1, 2, 3, 4, 5, 6, 7, 8, 9, 0, 1, 1, 0, 0, 0, 0));
        x.type(0, 0, 1);
        x.castle(1, 1, 1, 1, 0, 0);
        x.castle(3, 0, 2, 2, 3, 3);
        due("the rights", x.digest(), digestOf(1, 7, 12, 6, 0, 1, 2, 3, 4, 5, 6, 7, 8, 9, 0, 1, 1, 0, 1, 0, 1));
        setup("fF/1a");
        x.side(1);
        due("made", go(1, 0), 1);
        due("a right is lost", x.digest(), digestOf(7, 0, 12, 6, 0, 0, 0, 0, 0, 0, 0, 0, 0, 0, 0, 0, 0, 0, 0, 0, 1));
    }

    private void testGames() {
        says("Game. A game begins with each call of size, define, type, rule, setup, side, hand and castle that "
                + "returns no error code, and with a new board; earlier moves can then no longer be taken back.");
        due("a new board", x.back(), STATE);
        for (int call = 0; call < 10; call++) {
            x = new Counted();
            x.size(2, 6);
            define(0, "sW");
            setup("a1/2/2/2/2/A1");
            for (int n = 0; n < 4; n++) {
                x.make(0);
            }
            due("occurred before call " + call, x.count(5), 2);
            feed(call == 1 ? "W" : call == 4 ? "2/2/2/2/2/A1" : "");
            change(call);
            due("made after call " + call, x.count(4), 0);
            due("occurred after call " + call, x.count(5), 1);
            due("back after call " + call, x.back(), STATE);
        }
    }

    /** Calls that return no error code; some change nothing but that a game begins, one returns -1. */
    private void change(int call) {
        switch (call) {
            case 0: due("size", x.size(2, 6), 12); break;
            case 1: due("define", x.define(5), 1); break;
            case 2: due("type, royal", x.type(1, 0, 0), 0); break;
            case 3: due("rule", x.rule(0, 0), 0); break;
            case 4: due("setup", x.setup(), 1); break;
            case 5: due("side", x.side(0), 0); break;
            case 6: due("hand", x.hand(0, 0, 0), 0); break;
            case 7: due("castle", x.castle(0, 0, 0, 0, 1, 1), 1); break;
            case 8: due("type, promotion, before none", x.type(1, 1, -1), -1); break;
            default: due("rule 1", x.rule(1, 0), 0);
        }
    }

    private void testSamePositions() {
        says("Positions are the same if their digests are equal.");
        x.size(6, 6);
        define(0, "K");
        define(2, "W0");
        define(3, "W0");
        setup("5a/6/6/6/2D3/DC4");
        int digest = x.digest();
        // 3 * 31^51 + 4 * 31^52 + 4 * 31^44 and 3 * 31^27 + 4 * 31^40 + 4 * 31^38 agree in their last 32 bits.
        due("C goes up", go(1, 25), 1);
        due("a goes left", go(35, 34), 1);
        due("D goes up", go(0, 12), 1);
        due("a goes down", go(34, 29), 1);
        due("the other D goes up", go(8, 14), 1);
        due("a goes back, and it is the first position by its digest", go(29, 35), 2);
        due("the digest", x.digest(), digest);
        due("count(5)", x.count(5), 2);
        due("though C is elsewhere", x.at(25), 2);
        due("taken back", x.back(), 5);
        due("it has occurred once", x.count(5), 1);
    }

    private void testSnapshot() {
        says("Snapshot. The snapshot contains everything but itself and the tape.");
        x.size(4, 3);
        define(0, "W");
        define(1, "fW");
        x.type(0, 0, 1);
        x.type(1, 1, 0);
        x.rule(0, 1);
        x.rule(1, 1);
        setup("a3/4/A2B");
        x.hand(0, 1, 9);
        x.hand(1, 5, 1);
        x.castle(3, 0, 0, 1, 3, 2);
        x.castle(0, 1, 8, 9, 11, 10);
        go(0, 1);
        feed("ab");
        due("image", x.image(), 3);
        String text = text();
        int digest = x.digest();
        x.size(2, 2);
        define(0, "N");
        define(5, "N");
        x.type(0, 0, 0);
        x.type(1, 1, -1);
        x.rule(0, 0);
        x.rule(1, 0);
        feed("cde");
        due("undo", x.undo(), 3);
        int[] counts = {3, 4, 3, 1, 1, 1, 2, 1, 3, 1, 1};
        for (int what = 0; what < counts.length; what++) {
            due("count " + what, x.count(what), counts[what]);
        }
        dueText("text", text(), text);
        due("digest", x.digest(), digest);
        due("White's hand", x.count(21), 9);
        due("Black's hand", x.count(31), 1);
        due("directions", x.property(0, 1), 4);
        due("undefined", x.property(5, 0), NOTHING);
        due("royal", x.property(0, 2), 1);
        due("promotion", x.property(1, 3), 0);
        due("the snapshot stays", x.undo(), 3);
        due("the move is taken back", x.back(), 0);
        due("the right is back", x.count(7), 2);
        testSnapshotOfLaws();
        testSnapshotOfMoves();
    }

    private void testSnapshotOfLaws() {
        x = new Counted();
        x.size(6, 2);
        define(0, "mfsW2");
        x.type(0, 0, 1);
        define(1, "W");
        x.castle(0, 0, 0, 2, 5, 3);
        setup("6/A4B");
        String all = "Aa1-b1 Aa1-c1 Aa1-a2 Bf1-e1 Bf1-f2 O0";
        dueText("before", all(), all);
        x.image();
        define(0, "cbD3");
        x.castle(0, 1, 5, 4, 0, 1);
        setup("B5/A5");
        due("meanwhile", x.moves(3), 1);
        x.undo();
        dueText("after", all(), all);
        due("the castling", x.make(5), 1);
        dueText("by its squares", text(), "6/2AB2");
    }

    private void testSnapshotOfMoves() {
        x = new Counted();
        x.size(2, 3);
        define(0, "W");
        x.rule(0, 1);
        setup("a1/1a/A1");
        go(0, 1);
        go(3, 1);
        x.image();
        setup("2/AA/aa");
        go(3, 1);
        go(0, 1);
        x.undo();
        due("the last move", x.back(), 1);
        dueText("with the man that it captured", text(), "a1/1a/1A");
        due("and the hand", x.count(26), 0);
        due("the first move", x.back(), 0);
        dueText("the first position", text(), "a1/1a/A1");
    }

    private void testDoubtsOnCastlings() {
        says("In doubt. What several parts of a man let it do is one move.");
        dueSet("goes", inRow("WW0K", "A5"), 1, 2, 3, 4, 5, 6, 7);
        due("moves", x.moves(3), 7);
        due("on an empty board", x.property(0, 5), 8);
        says("For a castling, the squares between r and p, and s and q, are to be empty as told, and no square from r "
                + "to s may be attacked, whatever the royal rule is;");
        castlingMen();
        x.castle(0, 0, 1, 3, 5, 2);
        for (int rule = 0; rule <= 2; rule++) {
            x.rule(1, rule);
            due("free", castlings("6/1A3B"), 1);
            due("a man between", castlings("6/1A1C1B"), 0);
            due("r is attacked", castlings("1b4/1A3B"), 0);
            due("between is attacked", castlings("2b3/1A3B"), 0);
            due("s is attacked", castlings("3b2/1A3B"), 0);
            due("p is attacked", castlings("5b/1A3B"), 1);
        }
        says("r may be s, and p may be q;");
        castlingMen();
        due("both", x.castle(0, 0, 0, 0, 5, 5), 1);
        castlings("6/A4B");
        due("made", x.make(x.moves(0)), 1);
        dueText("nothing has moved", text(), "6/A4B");
        due("Black to move", x.count(3), 1);
        due("its right is lost", x.count(7), 0);
        due("taken back", x.back(), 0);
        dueText("nothing has moved", text(), "6/A4B");
        due("its right is back", x.count(7), 1);
        due("r is s", x.castle(0, 0, 0, 0, 5, 1), 1);
        castlings("6/A4B");
        due("made", x.make(x.moves(0)), 1);
        dueText("the second man has moved", text(), "6/AB4");
        due("p is q", x.castle(0, 0, 0, 4, 5, 5), 1);
        castlings("6/A4B");
        due("made", x.make(x.moves(0)), 1);
        dueText("the first man has moved", text(), "6/4AB");
        says("its right is lost by men of either side, and by captures there, too.");
        castlingMen();
        x.castle(0, 0, 0, 2, 5, 3);
        castlings("5b/A4B");
        x.side(1);
        due("Black takes on p", go(11, 5), 1);
        due("right", x.count(7), 0);
        castlings("a5/6");
        x.side(1);
        due("Black goes to r", go(6, 0), 1);
        due("right", x.count(7), 0);
        castlings("6/a5");
        x.side(1);
        due("Black goes from r", go(0, 1), 1);
        due("right", x.count(7), 0);
        castlings("5B/5b");
        due("White takes on p", go(11, 5), 1);
        due("right", x.count(7), 0);
    }

    private void testDoubtsOnTypes() {
        says("A captured man is of the type that it is then; a type that is undefined can be in a hand and be "
                + "dropped, and a type may promote to itself.");
        x.size(2, 3);
        define(0, "W");
        define(1, "F");
        x.type(0, 1, 1);
        x.rule(0, 1);
        setup("2/A1/1a");
        go(2, 4);
        due("it has become one", x.at(4), 1);
        x.side(1);
        setup("B1/1a/2");
        x.side(1);
        due("no capture aside", x.moves(4), 0);
        setup("1a/A1/2");
        go(2, 4);
        go(5, 4);
        due("the promoted man in Black's hand", x.count(27), 1);
        due("and none of what it was", x.count(26), 0);
        due("undefined", x.property(5, 0), NOTHING);
        setup("2/2/2");
        due("in a hand", x.hand(0, 5, 9), 0);
        due("dropped", x.make(5), 1);
        due("it is there", x.at(5), 5);
        due("eight are left", x.count(25), 8);
        due("to itself", x.type(0, 1, 0), 1);
        setup("2/A1/2");
        due("promotions", x.moves(5), 1);
        dueText("told", told(moveOf(2, 4)), "Aa2-a3=A");
        due("made", go(2, 4), 1);
        due("it stays one", x.at(4), 0);
        says("With f and b, all directions with a row difference to that side count.");
        dueSet("fN", alone("fN"), 18, 22, 25, 27);
        dueSet("bN", alone("bN"), 1, 3, 6, 10);
        dueSet("fF", alone("fF"), 19, 21);
        dueSet("bA", alone("bA"), 0, 4);
        dueSet("fbN", alone("fbN"), 1, 3, 6, 10, 18, 22, 25, 27);
    }

    private void testDoubtsOnTexts() {
        says("Digits may follow one another in a row of a text; a row that is too short is wrong at the / behind it, "
                + "or at the length, one that gets too long at the digit or letter that makes it so.");
        x.size(4, 2);
        define(0, "W");
        due("digits", setup("1111/22"), 0);
        due("digits and letters", setup("11A1/2A1"), 2);
        due("too short, the first row", setup("111/4"), -103);
        due("an empty row", setup("/4"), -100);
        due("too short, the last row", setup("4/111"), -105);
        due("an empty last row", setup("4/"), -102);
        due("an empty text", setup(""), -100);
        due("too long by a digit", setup("32/4"), -101);
        due("too long by a letter", setup("4A/4"), -101);
        due("too long at once", setup("5/4"), -100);
        due("too long at the end", setup("4/4A"), -103);
        due("too long by an undefined letter", setup("4/4F"), -103);
        due("the first that is wrong", setup("41/x"), -101);
    }

    private void testDoubtsOnGames() {
        says("The first position of a game counts as one that has occurred, what was taken back does not; a text that "
                + "is wrong begins no game.");
        x.size(2, 6);
        define(0, "sW");
        setup("a1/2/2/2/2/A1");
        due("the first", x.count(5), 1);
        x.make(0);
        x.back();
        due("taken back", x.make(0), 1);
        x.make(0);
        x.make(0);
        due("the first, too", x.make(0), 2);
        due("a wrong text", setup("x"), -100);
        due("a wrong text", define(0, "x"), -100);
        due("four are made", x.count(4), 4);
        due("occurred twice", x.count(5), 2);
        due("back", x.back(), 3);
        says("The snapshot holds the moves that can be taken back, too.");
        x.size(2, 6);
        define(0, "sW");
        setup("a1/2/2/2/2/A1");
        x.make(0);
        x.make(0);
        x.image();
        x.side(0);
        due("none", x.back(), STATE);
        x.undo();
        due("one is left", x.back(), 1);
        due("none is left", x.back(), 0);
        dueText("where it began", text(), "a1/2/2/2/2/A1");
        says("told() has capital letters for White's men, also for what they become, and + by the royal rule; "
                + "sequences are not limited by the moves made;");
        x.size(2, 6);
        define(0, "sW");
        define(1, "fW");
        x.type(0, 0, 1);
        x.type(1, 1, 2);
        setup("a1/1B/2/2/1b/A1");
        dueText("White's", told(0), "Bb5-b6=C");
        x.side(1);
        dueText("Black's", told(0), "bb2-b1=c");
        setup("a1/2/2/2/2/A1");
        for (int n = 0; n < 40; n++) {
            x.make(0);
        }
        due("no more moves", x.make(0), FULL);
        for (int way = 0; way < 2; way++) {
            due("sequences of one", x.sequences(1, way), 1);
            due("sequences of two", x.sequences(2, way), 1);
        }
        testChecksAndProperties();
    }

    private void testChecksAndProperties() {
        x = new Counted();
        x.size(3, 2);
        define(0, "F");
        define(1, "W");
        x.type(0, 0, 1);
        for (int rule = 0; rule <= 2; rule++) {
            x.rule(1, rule);
            setup("aa1/2B");
            dueText("two royal men by rule " + rule, told(1), rule == 0 ? "Bc1-c2+" : "Bc1-c2");
            setup("1a1/2B");
            dueText("one royal man by rule " + rule, told(1), rule < 2 ? "Bc1-c2+" : "Bc1-c2");
        }
        says("property 5 is the greatest number from one square, and property 1 counts each direction of a part once.");
        x.size(6, 6);
        define(0, "F0");
        due("the greatest, not the sum", x.property(0, 5), 9);
        define(0, "C");
        due("from an edge", x.property(0, 5), 4);
        define(0, "W0");
        due("a rider's directions", x.property(0, 1), 4);
        define(0, "hW0");
        due("a hopper's directions", x.property(0, 1), 4);
        define(0, "ffssW");
        due("with several modifiers", x.property(0, 1), 3);
    }

    private void testErrors() {
        says("Errors. A call that returns an error code leaves the state unchanged, except that define and setup "
                + "empty the tape if the text is wrong.");
        x.size(2, 6);
        define(0, "sW");
        setup("a1/2/2/2/2/A1");
        x.make(0);
        x.feed('W');
        String text = text();
        int digest = x.digest();
        int[] answers = {x.feed(128), x.size(7, 2), x.define(6), x.type(6, 0, 1), x.type(0, 0, 2), x.rule(2, 1),
            x.rule(1, 3), x.side(2), x.hand(0, 6, 1), x.hand(0, 0, 10), x.castle(4, 0, 0, 0, 1, 1),
            x.castle(0, 0, 0, 1, 0, 1), x.at(12), x.moves(6), x.move(99, 0), x.proof(12, 0), x.make(99),
            (int) x.attackers(12, 0), (int) x.attacked(2), x.sequences(3, 0), x.sequences(1, 2), x.text(99),
            x.told(99, 0), x.property(6, 0), x.undo(), x.count(11)};
        int[] errors = {BAD, BAD, NONE, NONE, BAD, NONE,
            BAD, BAD, NONE, BAD, NONE,
            BAD, NONE, NONE, NONE, NONE, NONE,
            0, 0, BAD, NONE, NONE,
            NONE, NONE, STATE, NONE};
        for (int i = 0; i < answers.length; i++) {
            due("error " + i, answers[i], errors[i]);
        }
        due("digest", x.digest(), digest);
        dueText("text", text(), text);
        due("made", x.count(4), 1);
        due("tape", x.count(8), 1);
        due("parts", x.property(0, 1), 2);
        due("rules", x.count(9) + x.count(10), 0);
        due("castlings", x.count(6), 0);
        due("define", define(0, "x"), -101);
        due("the tape is empty", x.count(8), 0);
        due("setup", setup("x"), -100);
        due("the tape is empty", x.count(8), 0);
        due("digest", x.digest(), digest);
        due("back", x.back(), 0);
        says("If several errors apply, the one that is listed first in the @return line is returned.");
        for (int n = 0; n < 60; n++) {
            x.feed('x');
        }
        due("feed", x.feed(128), BAD);
        due("define", x.define(6), NONE);
        due("type", x.type(6, 2, 9), NONE);
        due("type", x.type(0, 2, 9), NONE);
        due("rule", x.rule(2, 9), NONE);
        due("hand", x.hand(2, 6, 10), NONE);
        due("castle", x.castle(4, 2, 0, 7, 0, 7), NONE);
        due("sequences", x.sequences(3, 2), BAD);
        due("move", x.move(0, 8), NONE);
        due("told", x.told(0, -2), NONE);
    }

    private void testQuestions() {
        says("NONE means that a number or selector is invalid, BAD that a value is out of range, STATE that the state "
                + "forbids the call, and FULL that a limit is reached.");
        due("a number", x.at(25), NONE);
        due("a selector", x.count(11), NONE);
        due("a value", x.rule(0, 2), BAD);
        due("the state", x.back(), STATE);
        for (int n = 0; n < 60; n++) {
            x.feed('W');
        }
        due("a limit", x.feed('W'), FULL);
        says("Methods that return a long return NO instead.");
        due("attackers", x.attackers(25, 0), NO);
        due("attackers", x.attackers(0, 2), NO);
        due("attacked", x.attacked(2), NO);
        says("The result -5 is returned only if no error applies.");
        x.size(2, 2);
        define(0, "W");
        setup("2/A1");
        due("an empty square", x.at(3), NOTHING);
        due("no square", x.at(4), NONE);
        due("legal", x.proof(0, 1), NOTHING);
        due("no square", x.proof(0, 4), NONE);
        due("captures none", x.move(0, 4), NOTHING);
        due("no move", x.move(2, 4), NONE);
        due("undefined", x.property(5, 0), NOTHING);
        due("no type", x.property(6, 0), NONE);
        says("Questions do not change the state.");
        x.size(2, 6);
        define(0, "sW");
        setup("a1/2/2/2/2/A1");
        x.make(0);
        x.feed('W');
        int digest = x.digest();
        for (int way = 0; way < 2; way++) {
            x.sequences(2, way);
            x.moves(3);
            x.move(0, 6);
            x.move(0, 7);
            x.proof(10, 11);
            x.told(0, -1);
            x.text(-1);
            x.property(0, 5);
            x.status();
            x.attackers(0, way);
            x.attacked(way);
            x.at(0);
            x.count(0);
            due("digest", x.digest(), digest);
            due("made", x.count(4), 1);
            due("occurred", x.count(5), 1);
            due("tape", x.count(8), 1);
            due("men", x.count(0), 2);
        }
        due("back", x.back(), 0);
        says("Sets of squares are longs, with bit n for the square n.");
        x.size(6, 6);
        define(0, "W");
        setup("4AA/6/6/6/6/AA4");
        due("the first square", x.attackers(1, 0), 1L);
        due("the last square", x.attackers(34, 0), 1L << 35);
        due("attacked", x.attacked(0), 1L | 1L << 1 | 1L << 2 | 1L << 6 | 1L << 7 | 1L << 28 | 1L << 29 | 1L << 33
                | 1L << 34 | 1L << 35);
    }

    private void testConstants() {
        says("The constants: - `NO = Long.MIN_VALUE`: The error value of methods that return a long.");
        due("NONE", VariantBoard.NONE, -1);
        due("BAD", VariantBoard.BAD, -2);
        due("STATE", VariantBoard.STATE, -3);
        due("FULL", VariantBoard.FULL, -4);
        due("NO", VariantBoard.NO, Long.MIN_VALUE);
        says("The constructor and the methods follow, a promise each: the signature, then what it does.");
        due("all of them", new VariantBoard().count(1), 5);
    }
}
