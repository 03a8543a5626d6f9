/** The promises 1 to 27, sentence by sentence: what each asks at its boundaries, worked out by hand. */
public final class BoundariesTest extends Sentences {
    private static final int[] NO_SIDES = {-1, 2, LOWEST, HIGHEST};
    private static final int[] NO_TYPES = {-1, 6, LOWEST, HIGHEST};
    private static final int[] NO_MOVES = {-1, 31, LOWEST, HIGHEST};

    public static void main(String[] args) {
        BoundariesTest test = new BoundariesTest();
        test.testNewObject();
        test.testFeed();
        test.testSize();
        test.testDefine();
        test.testDefineErrors();
        test.testType();
        test.testRule();
        test.testSetup();
        test.testSetupErrors();
        test.testSide();
        test.testHand();
        test.testCastle();
        test.testCastleErrors();
        test.testAt();
        test.testMoves();
        test.testMove();
        test.testMoveErrors();
        test.testProof();
        test.testMake();
        test.testBack();
        test.testAttackers();
        test.testAttacked();
        test.testStatus();
        test.testSequences();
        test.testText();
        test.testTold();
        test.testProperty();
        test.testPropertyErrors();
        test.testDigest();
        test.testImage();
        test.testUndo();
        test.testCount();
        test.end(1, 27);
    }

    /** King A, royal; rook B; knight C; pawn D that promotes to a rook. */
    private void men() {
        define(0, "king");
        define(1, "rook");
        define(2, "knight");
        define(3, "pawn");
        x.type(0, 0, 1);
        x.type(3, 1, 1);
    }

    /**
     * Four by four, White to move: 10 moves of men (0 to 9), a castling (10), the drops of a rook on 11 squares (11 to
     * 21) and those of a pawn on 9 squares that aren't in the far row (22 to 30).
     */
    private void middle() {
        x.size(4, 4);
        men();
        x.rule(0, 1);
        setup("a2b/2D1/4/A2B");
        x.hand(0, 1, 1);
        x.hand(0, 3, 1);
        x.castle(2, 0, 0, 2, 3, 1);
    }

    /** Two columns, six rows, and a man of each side that has just one move: to the other square of its row. */
    private void toAndFro() {
        x.size(2, 6);
        define(0, "sW");
        setup("a1/2/2/2/2/A1");
    }

    private void make(int times) {
        for (int n = 0; n < times; n++) {
            x.make(0);
        }
    }

    private static int digestOf(int... numbers) {
        int d = 17;
        for (int v : numbers) {
            d = 31 * d + v;
        }
        return d;
    }

    private void testNewObject() {
        section(1);
        says("Creates an empty board with undefined types, White to move.");
        due("men", x.count(0), 0);
        due("columns", x.count(1), 5);
        due("rows", x.count(2), 5);
        for (int square = 0; square < 25; square++) {
            due("at " + square, x.at(square), NOTHING);
        }
        due("behind the last square", x.at(25), NONE);
        for (int type = 0; type < 6; type++) {
            due("parts of " + type, x.property(type, 0), NOTHING);
            due("royal " + type, x.property(type, 2), 0);
            due("promotion of " + type, x.property(type, 3), -1);
        }
        due("White to move", x.count(3), 0);
        for (int what = 20; what < 32; what++) {
            due("hand " + what, x.count(what), 0);
        }
        due("moves made", x.count(4), 0);
        due("occurred", x.count(5), 1);
        due("castlings", x.count(6), 0);
        due("rights", x.count(7), 0);
        due("tape", x.count(8), 0);
        due("drops", x.count(9), 0);
        due("royal rule", x.count(10), 0);
        due("digest", x.digest(), digestOf(new int[25 + 12 + 1 + 4]));
        dueText("text", text(), "5/5/5/5/5");
        due("moves", x.moves(3), 0);
        due("status", x.status(), 2);
        due("back", x.back(), STATE);
        due("undo", x.undo(), STATE);
        due("an undefined letter", setup("A4/5/5/5/5"), -100);
    }

    private void testFeed() {
        section(2);
        says("Appends a byte to the tape.");
        due("m, then W", define(0, "mW"), 1);
        due("W, then m", define(0, "Wm"), -102);
        says("`sign`: the byte, 0 to 127");
        due("the least", x.feed(0), 1);
        due("the greatest", x.feed(127), 2);
        says("Returns the new length of the tape;");
        for (int n = 1; n <= 60; n++) {
            due("byte " + n, x.feed('W'), n);
            due("count(8)", x.count(8), n);
        }
        says("BAD if sign is out of range;");
        for (int sign : new int[] {-1, 128, 256, 256 + 'W', LOWEST, HIGHEST}) {
            due("feed " + sign, x.feed(sign), BAD);
        }
        due("nothing is appended", x.count(8), 0);
        says("FULL if the tape has 60 bytes.");
        for (int n = 1; n < 60; n++) {
            x.feed('f');
        }
        due("the last that fits", x.feed('W'), 60);
        due("one more", x.feed('x'), FULL);
        due("the least", x.feed(0), FULL);
        due("BAD comes first", x.feed(-1), BAD);
        due("BAD comes first", x.feed(128), BAD);
        due("still full", x.count(8), 60);
        due("the text is as it was", x.define(0), 1);
        due("there is room again", x.feed('x'), 1);
    }

    private void testSize() {
        section(3);
        says("`columns`: the number of columns, 2 to 6");
        due("2", x.size(2, 3), 6);
        due("6", x.size(6, 3), 18);
        for (int columns : new int[] {1, 7, 0, -2, LOWEST, HIGHEST}) {
            due("columns " + columns, x.size(columns, 3), BAD);
        }
        due("columns stay", x.count(1), 6);
        says("`rows`: the number of rows, 2 to 6");
        due("2", x.size(3, 2), 6);
        due("6", x.size(3, 6), 18);
        for (int rows : new int[] {1, 7, 0, -2, LOWEST, HIGHEST}) {
            due("rows " + rows, x.size(3, rows), BAD);
        }
        due("rows stay", x.count(2), 6);
        says("Sets the size of the board, which is empty then, as are the hands; the castlings are removed, "
                + "and White has to move.");
        x.size(4, 3);
        men();
        setup("a3/4/A2B");
        for (int slot = 0; slot < 4; slot++) {
            x.castle(slot, 0, 0, 1, 3, 2);
        }
        for (int side = 0; side < 2; side++) {
            for (int type = 0; type < 6; type++) {
                x.hand(side, type, 9);
            }
        }
        x.side(1);
        due("the same size", x.size(4, 3), 12);
        due("men", x.count(0), 0);
        for (int square = 0; square < 12; square++) {
            due("at " + square, x.at(square), NOTHING);
        }
        for (int what = 20; what < 32; what++) {
            due("hand " + what, x.count(what), 0);
        }
        due("castlings", x.count(6), 0);
        due("rights", x.count(7), 0);
        due("White to move", x.count(3), 0);
        due("the types stay", setup("4/4/A2B"), 2);
        due("no castling is possible", x.moves(1), 0);
        says("Returns the number of squares; BAD if an argument is out of range.");
        due("the smallest", x.size(2, 2), 4);
        due("the greatest", x.size(6, 6), 36);
        due("the narrowest", x.size(2, 6), 12);
        due("the lowest", x.size(6, 2), 12);
        men();
        setup("6/A5");
        x.make(0);
        x.feed('W');
        int digest = x.digest();
        due("both", x.size(7, 7), BAD);
        due("both", x.size(1, 1), BAD);
        due("the first", x.size(7, 6), BAD);
        due("the second", x.size(6, 1), BAD);
        due("the state stays", x.digest(), digest);
        due("the game goes on", x.count(4), 1);
        due("the tape stays", x.count(8), 1);
    }

    private void testDefine() {
        section(4);
        says("Defines a type by the text on the tape, in place of what it was.");
        due("six parts", define(0, "WFDNAC"), 6);
        setup("5/5/2A2/5/5");
        dueSet("goes", targets(12), 7, 11, 13, 17, 6, 8, 16, 18, 2, 10, 14, 22, 1, 3, 5, 9, 15, 19, 21, 23,
                0, 4, 20, 24);
        due("one part", define(0, "mF"), 1);
        due("parts", x.property(0, 0), 1);
        due("directions", x.property(0, 1), 4);
        dueSet("goes", targets(12), 6, 8, 16, 18);
        dueSet("attacks", x.attacked(0));
        due("another type stays", x.property(1, 0), NOTHING);
        says("The tape is emptied, also if the text is wrong.");
        due("a good text", define(0, "W"), 1);
        due("empty", x.count(8), 0);
        due("a wrong text", define(0, "Wx"), -101);
        due("empty", x.count(8), 0);
        due("an empty text", x.define(0), -100);
        due("the next byte is the first", x.feed('W'), 1);
        says("`type`: the type");
        due("the first", define(0, "W"), 1);
        due("the last", define(5, "W"), 1);
        feed("W");
        for (int type : NO_TYPES) {
            due("type " + type, x.define(type), NONE);
        }
        says("Returns the number of its parts;");
        String[] texts = {"W", "WW", "WWW", "WWWW", "WWWWW", "WWWWWW"};
        for (int n = 1; n <= 6; n++) {
            due("parts", define(0, texts[n - 1]), n);
        }
        due("six with K", define(0, "KKKKKK"), 6);
        String[] words = {"king", "queen", "rook", "bishop", "knight", "pawn", "cannon"};
        int[] parts = {1, 1, 1, 1, 1, 2, 2};
        for (int n = 0; n < words.length; n++) {
            due(words[n], define(0, words[n]), parts[n]);
        }
    }

    private void testDefineErrors() {
        says("NONE if there is no such type, in which case the tape is not emptied;");
        feed("W");
        due("type 6", x.define(6), NONE);
        due("type -1", x.define(-1), NONE);
        due("the tape stays", x.count(8), 1);
        feed("x");
        due("NONE before a wrong text", x.define(6), NONE);
        due("the tape stays", x.count(8), 2);
        due("the text is wrong", x.define(5), -101);
        due("NONE before an empty text", x.define(6), NONE);
        says("-100 minus the error position if the text is wrong.");
        due("an empty tape", x.define(0), -100);
        due("the first byte", define(0, "xW"), -100);
        due("the last byte", define(0, "Wx"), -101);
        due("its length", define(0, "Wm"), -102);
        due("59 modifiers and a wrong byte", define(0, "m".repeat(59) + "x"), -159);
        due("the last byte of a full tape", define(0, "m".repeat(59) + "W"), 1);
        setup("5/5/5/5/A4");
        x.make(0);
        due("a full tape that ends too early", define(0, "m".repeat(60)), -160);
        due("the type stays", x.property(0, 0), 1);
        due("the game goes on", x.count(4), 1);
    }

    private void testType() {
        section(5);
        says("Sets a property of a type.");
        x.type(5, 0, 1);
        x.type(5, 1, 0);
        due("royal", x.property(5, 2), 1);
        due("promotion", x.property(5, 3), 0);
        due("of this type alone", x.property(4, 2), 0);
        due("of this type alone", x.property(4, 3), -1);
        says("`type`: the type");
        due("the first", x.type(0, 0, 1), 0);
        due("the last", x.type(5, 0, 1), 0);
        says("`what`: 0 for royal, with 1 or 0; 1 for the promotion type, with a type or -1 for none");
        due("royal", x.type(0, 0, 1), 0);
        due("not royal", x.type(0, 0, 0), 1);
        due("the last type", x.type(0, 1, 5), -1);
        due("the first type", x.type(0, 1, 0), 5);
        due("none", x.type(0, 1, -1), 0);
        due("royal stays", x.property(0, 2), 0);
        says("`v`: the new value");
        x.type(0, 1, 4);
        due("the value", x.property(0, 3), 4);
        x.type(0, 1, -1);
        due("the value", x.property(0, 3), -1);
        says("Returns the previous value;");
        due("not royal", x.type(2, 0, 0), 0);
        due("not royal", x.type(2, 0, 1), 0);
        due("royal", x.type(2, 0, 1), 1);
        due("none", x.type(2, 1, -1), -1);
        due("none", x.type(2, 1, 2), -1);
        due("itself", x.type(2, 1, 2), 2);
        says("NONE if there is no such type or what is invalid;");
        for (int type : NO_TYPES) {
            due("type " + type, x.type(type, 0, 1), NONE);
            due("type " + type + " with a wrong value", x.type(type, 0, 2), NONE);
        }
        for (int what : new int[] {-1, 2, LOWEST, HIGHEST}) {
            due("what " + what, x.type(0, what, 1), NONE);
            due("what " + what + " with a wrong value", x.type(0, what, 6), NONE);
        }
        says("BAD if v is out of range.");
        for (int v : new int[] {-1, 2, LOWEST, HIGHEST}) {
            due("royal " + v, x.type(3, 0, v), BAD);
        }
        for (int v : new int[] {-2, 6, LOWEST, HIGHEST}) {
            due("promotion " + v, x.type(3, 1, v), BAD);
        }
        due("royal stays", x.property(3, 2), 0);
        due("promotion stays", x.property(3, 3), -1);
    }

    private void testRule() {
        section(6);
        says("Sets a rule.");
        x.rule(0, 1);
        x.rule(1, 2);
        due("drops", x.count(9), 1);
        due("royal rule", x.count(10), 2);
        says("`what`: 0 or 1");
        due("0", x.rule(0, 1), 0);
        due("1", x.rule(1, 1), 0);
        due("2", x.rule(2, 0), NONE);
        due("-1", x.rule(-1, 0), NONE);
        says("`v`: the new value");
        due("drops", x.rule(0, 1) + x.rule(0, 0), 1);
        due("royal rule", x.rule(1, 2) + x.rule(1, 1) + x.rule(1, 0), 3);
        says("Returns the previous value;");
        due("drops", x.rule(0, 0), 0);
        due("drops", x.rule(0, 1), 0);
        due("drops", x.rule(0, 0), 1);
        due("royal rule", x.rule(1, 1), 0);
        due("royal rule", x.rule(1, 2), 1);
        due("royal rule", x.rule(1, 2), 2);
        says("NONE if what is invalid;");
        for (int what : new int[] {-1, 2, LOWEST, HIGHEST}) {
            due("what " + what, x.rule(what, 0), NONE);
            due("what " + what + " with a wrong value", x.rule(what, 3), NONE);
        }
        says("BAD if v is out of range.");
        for (int v : new int[] {-1, 2, 3, LOWEST, HIGHEST}) {
            due("drops " + v, x.rule(0, v), BAD);
        }
        for (int v : new int[] {-1, 3, LOWEST, HIGHEST}) {
            due("royal rule " + v, x.rule(1, v), BAD);
        }
        due("drops stay", x.count(9), 0);
        due("the royal rule stays", x.count(10), 0);
    }

    private void testSetup() {
        section(7);
        says("Reads a position from the tape; the hands are empty then, all castlings have their rights, "
                + "and White has to move.");
        x.size(4, 3);
        men();
        setup("a2b/4/A2B");
        x.castle(0, 0, 0, 1, 3, 2);
        x.castle(3, 1, 8, 9, 11, 10);
        for (int side = 0; side < 2; side++) {
            x.hand(side, 0, 9);
            x.hand(side, 5, 1);
        }
        go(3, 11);
        due("both rights are lost", x.count(7), 0);
        due("Black to move", x.count(3), 1);
        due("setup", setup("a2b/4/A2B"), 4);
        for (int what : new int[] {20, 25, 26, 31}) {
            due("hand " + what, x.count(what), 0);
        }
        due("castlings", x.count(6), 2);
        due("rights", x.count(7), 2);
        due("White to move", x.count(3), 0);
        due("the first square", x.at(0), 0);
        due("the last square", x.at(11), 7);
        due("no move is made", x.count(4), 0);
        due("without their men, too", setup("4/4/4"), 0);
        due("rights", x.count(7), 2);
        says("The tape is emptied, also if the text is wrong.");
        due("a good text", setup("5/5/5/5/5"), 0);
        due("empty", x.count(8), 0);
        due("a wrong text", setup("5/5/5/5/x5"), -108);
        due("empty", x.count(8), 0);
        due("the next byte is the first", x.feed('5'), 1);
        says("Returns the number of men;");
        due("none", setup("5/5/5/5/5"), 0);
        x.size(6, 6);
        define(5, "W");
        due("as many as there are squares", setup("FfFfFf/FfFfFf/FfFfFf/FfFfFf/FfFfFf/FfFfFf"), 36);
        due("one on the last square", setup("5F/6/6/6/6/6"), 1);
        due("one on the first square", setup("6/6/6/6/6/f5"), 1);
        due("it is Black's", x.at(0), 11);
    }

    private void testSetupErrors() {
        says("-100 minus the error position if the text is wrong;");
        x.size(2, 2);
        define(0, "W");
        setup("1a/A1");
        go(0, 1);
        x.hand(0, 0, 3);
        x.castle(0, 0, 0, 0, 1, 1);
        x.side(1);
        x.make(0);
        int digest = x.digest();
        due("an empty tape", x.setup(), -100);
        due("the first byte", setup("x/2"), -100);
        due("too short", setup("2/"), -102);
        due("a row too few", setup("2"), -101);
        due("a row too many", setup("2/2/"), -103);
        due("a byte too many", setup("2/21"), -103);
        due("a full tape", setup("2/11" + "1".repeat(56)), -104);
        due("the position stays", x.digest(), digest);
        due("the game goes on", x.count(4), 1);
        due("and can be taken back", x.back(), 0);
        says("a letter of an undefined type, and a digit with which a row would have too many squares, are wrong.");
        x.size(3, 2);
        define(1, "W");
        due("White's undefined", setup("A2/3"), -100);
        due("White's defined", setup("B2/3"), 1);
        due("White's undefined", setup("C2/3"), -100);
        due("Black's undefined", setup("3/2a"), -103);
        due("Black's defined", setup("3/2b"), 1);
        due("Black's undefined", setup("3/2f"), -103);
        due("behind the last letter", setup("G2/3"), -100);
        due("behind the last letter", setup("g2/3"), -100);
        due("before the first letter", setup("@2/3"), -100);
        due("before the first letter", setup("`2/3"), -100);
        due("as many squares as fit", setup("3/3"), 0);
        due("one too many at once", setup("4/3"), -100);
        due("the greatest digit", setup("6/3"), -100);
        due("one too many at last", setup("12/31"), -104);
        due("two digits", setup("22/3"), -101);
        due("behind a letter", setup("B3/3"), -101);
        due("no digit", setup("0/3"), -100);
        due("no digit", setup("7/3"), -100);
    }

    private void testSide() {
        section(8);
        says("Sets the side to move.");
        x.side(1);
        due("Black", x.count(3), 1);
        x.side(0);
        due("White", x.count(3), 0);
        says("`side`: the side, 0 or 1");
        due("0", x.side(0), 0);
        due("1", x.side(1), 0);
        says("Returns the previous side to move;");
        due("White", x.side(0), 0);
        due("White", x.side(1), 0);
        due("Black", x.side(1), 1);
        due("Black", x.side(0), 1);
        says("BAD if side is out of range.");
        toAndFro();
        x.make(0);
        for (int side : NO_SIDES) {
            due("side " + side, x.side(side), BAD);
        }
        due("Black still has to move", x.count(3), 1);
        due("the game goes on", x.count(4), 1);
    }

    private void testHand() {
        section(9);
        says("Sets the number of men of a type in a hand.");
        x.hand(0, 5, 3);
        x.hand(1, 0, 9);
        int[] hands = {0, 0, 0, 0, 0, 3, 9, 0, 0, 0, 0, 0};
        for (int i = 0; i < 12; i++) {
            due("count " + (20 + i), x.count(20 + i), hands[i]);
        }
        says("`side`: the side, 0 or 1");
        due("0", x.hand(0, 0, 1), 0);
        due("1", x.hand(1, 0, 1), 0);
        says("`type`: the type");
        due("the first", x.hand(0, 0, 1), 0);
        due("the last", x.hand(0, 5, 1), 0);
        says("`n`: the number, 0 to 9");
        due("9", x.hand(0, 0, 9), 0);
        due("0", x.hand(0, 0, 0), 9);
        says("Returns the previous number;");
        due("none", x.hand(1, 5, 0), 0);
        due("none", x.hand(1, 5, 9), 0);
        due("nine", x.hand(1, 5, 9), 9);
        due("nine", x.hand(1, 5, 1), 9);
        due("one", x.hand(1, 5, 0), 1);
        says("NONE if there is no such side or type;");
        for (int side : NO_SIDES) {
            due("side " + side, x.hand(side, 0, 1), NONE);
            due("side " + side + " with a wrong number", x.hand(side, 0, 10), NONE);
        }
        for (int type : NO_TYPES) {
            due("type " + type, x.hand(0, type, 1), NONE);
            due("type " + type + " with a wrong number", x.hand(0, type, -1), NONE);
        }
        due("nothing is set", x.count(20) + x.count(25) + x.count(26) + x.count(31), 0);
        says("BAD if n is out of range.");
        x.hand(0, 0, 4);
        for (int n : new int[] {-1, 10, LOWEST, HIGHEST}) {
            due("number " + n, x.hand(0, 0, n), BAD);
        }
        due("the number stays", x.count(20), 4);
    }

    private void testCastle() {
        section(10);
        says("Puts a castling with its right into a slot, in place of an earlier one.");
        x.size(6, 2);
        men();
        x.castle(0, 0, 0, 2, 5, 3);
        setup("6/A4B");
        due("possible", x.moves(1), 1);
        x.make(x.moves(0));
        due("its right is lost", x.count(7), 0);
        due("in place of it", x.castle(0, 0, 2, 0, 3, 5), 1);
        due("its right is there", x.count(7), 1);
        x.side(0);
        x.make(x.moves(0));
        dueText("it goes by the new squares", text(), "6/A4B");
        says("`slot`: the slot, 0 to 3");
        due("the first", x.castle(0, 0, 0, 1, 2, 3), 1);
        due("the last", x.castle(3, 0, 0, 1, 2, 3), 2);
        says("`side`: the side, 0 or 1");
        due("White's", x.castle(0, 0, 0, 1, 2, 3), 1);
        due("Black's", x.castle(1, 1, 0, 1, 2, 3), 2);
        testSquares();
        says("Returns the number of castlings;");
        due("one", x.castle(3, 0, 0, 1, 2, 3), 1);
        due("still one", x.castle(3, 1, 0, 1, 2, 3), 1);
        due("two", x.castle(0, 0, 0, 1, 2, 3), 2);
        due("three", x.castle(1, 0, 0, 1, 2, 3), 3);
        due("four", x.castle(2, 0, 0, 1, 2, 3), 4);
        due("still four", x.castle(2, 0, 0, 1, 2, 3), 4);
    }

    /** A castling by which each of its squares can be told from the others. */
    private void testSquares() {
        String[] words = {"`r`: the square from which the first man goes", "`s`: the square to which it goes",
            "`p`: the square from which the second man goes", "`q`: the square to which it goes"};
        int[] before = {7, 10, 11, 9};
        int[] men = {0, 0, 1, 1};
        for (int i = 0; i < 4; i++) {
            says(words[i]);
            x.size(6, 2);
            men();
            due("castle", x.castle(1, 0, 7, 10, 11, 9), 1);
            due("setup", setup("1A3B/6"), 2);
            if (i % 2 == 1) {
                due("made", x.make(x.moves(0)), 1);
            }
            due("the man there", x.at(before[i]), men[i]);
            due("men", x.count(0), 2);
        }
    }

    private void testCastleErrors() {
        says("NONE if slot or side is out of range or there is no such square;");
        x.size(4, 2);
        for (int slot : new int[] {-1, 4, LOWEST, HIGHEST}) {
            due("slot " + slot, x.castle(slot, 0, 4, 5, 7, 6), NONE);
        }
        for (int side : NO_SIDES) {
            due("side " + side, x.castle(0, side, 4, 5, 7, 6), NONE);
        }
        for (int square : new int[] {-1, 8, LOWEST, HIGHEST}) {
            due("r " + square, x.castle(0, 0, square, 5, 7, 6), NONE);
            due("s " + square, x.castle(0, 0, 4, square, 7, 6), NONE);
            due("p " + square, x.castle(0, 0, 4, 5, square, 6), NONE);
            due("q " + square, x.castle(0, 0, 4, 5, 7, square), NONE);
        }
        due("NONE before BAD", x.castle(4, 0, 4, 5, 4, 5), NONE);
        due("NONE before BAD", x.castle(0, 2, 4, 5, 4, 5), NONE);
        due("NONE before BAD", x.castle(0, 0, 4, 8, 4, 0), NONE);
        due("no square, thus in no row", x.castle(0, 0, 5, 5, 7, 8), NONE);
        due("no castling", x.count(6), 0);
        due("the first and the last square", x.castle(0, 0, 0, 3, 3, 0) + x.castle(1, 0, 7, 4, 4, 7), 3);
        says("BAD if the squares are not as told under Castlings.");
        x.size(4, 2);
        due("another row: r", x.castle(0, 0, 3, 5, 7, 6), BAD);
        due("another row: s", x.castle(0, 0, 4, 3, 7, 6), BAD);
        due("another row: p", x.castle(0, 0, 4, 5, 3, 6), BAD);
        due("another row: q", x.castle(0, 0, 4, 5, 7, 3), BAD);
        due("two rows", x.castle(0, 0, 0, 1, 7, 6), BAD);
        due("r is p", x.castle(0, 0, 4, 5, 4, 6), BAD);
        due("s is q", x.castle(0, 0, 4, 5, 7, 5), BAD);
        due("both", x.castle(0, 0, 4, 5, 4, 5), BAD);
        due("no castling", x.count(6), 0);
        due("no right", x.count(7), 0);
        due("an earlier one", x.castle(0, 0, 4, 5, 7, 6), 1);
        due("BAD", x.castle(0, 1, 0, 1, 0, 3), BAD);
        men();
        setup("A2B/4");
        due("stays as it is", x.moves(1), 1);
    }

    private void testAt() {
        section(11);
        says("Returns what is on a square.");
        x.size(2, 2);
        men();
        setup("d1/1A");
        due("0", x.at(0), NOTHING);
        due("1", x.at(1), 0);
        due("2", x.at(2), 9);
        due("3", x.at(3), NOTHING);
        says("`square`: the square");
        x.size(6, 6);
        men();
        setup("5a/6/6/6/6/A5");
        due("the first", x.at(0), 0);
        due("the last", x.at(35), 6);
        says("Returns the type plus 6 times the side of the man, -5 if it is empty;");
        x.size(6, 2);
        for (int type = 0; type < 6; type++) {
            define(type, "W");
        }
        setup("abcdef/ABCDEF");
        for (int square = 0; square < 12; square++) {
            due("at " + square, x.at(square), square);
        }
        setup("6/6");
        for (int square = 0; square < 12; square++) {
            due("at " + square, x.at(square), NOTHING);
        }
        says("NONE if there is no such square.");
        for (int square : new int[] {-1, 25, 26, 36, 64, LOWEST, HIGHEST}) {
            due("at " + square, x.at(square), NONE);
        }
        x.size(2, 2);
        due("the last", x.at(3), NOTHING);
        due("behind it", x.at(4), NONE);
    }

    private void testMoves() {
        section(12);
        says("Returns the number of legal moves.");
        x.size(4, 4);
        define(0, "king");
        define(1, "rook");
        x.type(0, 0, 1);
        setup("1b2/4/2b1/A3");
        due("none", x.moves(3), 0);
        setup("4/4/2b1/A3");
        due("only the safe one", x.moves(3), 1);
        says("`kind`: 0 for those of men, 1 for castlings, 2 for drops, 3 for all, 4 for those that capture, "
                + "5 for those that promote");
        middle();
        int[] kinds = {10, 1, 20, 31, 2, 2};
        for (int kind = 0; kind < 6; kind++) {
            due("kind " + kind, x.moves(kind), kinds[kind]);
        }
        x.rule(0, 0);
        kinds = new int[] {10, 1, 0, 11, 2, 2};
        for (int kind = 0; kind < 6; kind++) {
            due("kind " + kind + " without drops", x.moves(kind), kinds[kind]);
        }
        says("Returns the number; NONE if kind is invalid.");
        middle();
        for (int kind : new int[] {-1, 6, LOWEST, HIGHEST}) {
            due("kind " + kind, x.moves(kind), NONE);
        }
        x.size(2, 2);
        for (int kind = 0; kind < 6; kind++) {
            due("kind " + kind + " of nothing", x.moves(kind), 0);
        }
        x.size(6, 6);
        x.type(3, 1, -1);
        for (int type = 0; type < 6; type++) {
            x.hand(0, type, 9);
        }
        due("six types on all squares", x.moves(2), 216);
        due("the last one's type", x.move(215, 3), 5);
        due("its square", x.move(215, 2), 35);
        due("behind it", x.move(216, 0), NONE);
    }

    private void testMove() {
        section(13);
        says("Returns a property of a legal move.");
        middle();
        due("of the first", x.move(0, 2), 1);
        due("of the last", x.move(30, 2), 11);
        says("`move`: the move");
        middle();
        due("the first", x.move(0, 0), 0);
        due("the last", x.move(30, 0), 2);
        due("behind it", x.move(31, 0), NONE);
        says("`what`: 0 its kind: 0 a man, 1 a castling, 2 a drop;");
        middle();
        for (int move = 0; move < 31; move++) {
            due("kind of " + move, x.move(move, 0), move < 10 ? 0 : move == 10 ? 1 : 2);
        }
        says("1 the square from which it goes, for a castling the first man's, -5 for a drop;");
        middle();
        int[] from = {0, 0, 0, 3, 3, 3, 3, 3, 10, 10, 0};
        for (int move = 0; move < 31; move++) {
            due("from of " + move, x.move(move, 1), move < 11 ? from[move] : NOTHING);
        }
        says("2 the square to which it goes;");
        middle();
        int[] to = {1, 4, 5, 1, 2, 7, 11, 15, 14, 15, 2, 1, 2, 4, 5, 6, 7, 8, 9, 11, 13, 14,
            1, 2, 4, 5, 6, 7, 8, 9, 11};
        for (int move = 0; move < 31; move++) {
            due("to of " + move, x.move(move, 2), to[move]);
        }
        says("3 the type of the man before it goes, or of that which is dropped;");
        middle();
        int[] types = {0, 0, 0, 1, 1, 1, 1, 1, 3, 3, 0};
        for (int move = 0; move < 31; move++) {
            due("type of " + move, x.move(move, 3), move < 11 ? types[move] : move < 22 ? 1 : 3);
        }
        says("4 the type that it captures, -5 if none;");
        middle();
        for (int move = 0; move < 31; move++) {
            due("captured by " + move, x.move(move, 4), move == 7 || move == 9 ? 1 : NOTHING);
        }
        says("5 the type as which it arrives;");
        middle();
        for (int move = 0; move < 31; move++) {
            int type = move < 11 ? types[move] : move < 22 ? 1 : 3;
            due("arrives by " + move, x.move(move, 5), move == 8 || move == 9 ? 1 : type);
        }
    }

    private void testMoveErrors() {
        says("6 whether the other side is not safe then (1 or 0);");
        middle();
        long checks = set(7, 8, 9, 13, 17, 20, 21, 29);
        for (int move = 0; move < 31; move++) {
            due("check by " + move, x.move(move, 6), checks >>> move & 1);
        }
        x.rule(1, 2);
        for (int move = 0; move < 31; move++) {
            due("no check by rule 2 by " + move, x.move(move, 6), 0);
        }
        says("7 the digest of the position to which it leads");
        middle();
        due("a capture with a promotion", x.move(9, 7), digestOf(1, 0, 0, 2, 0, 0, 0, 0, 0, 0, 0, 0, 7, 0, 0, 2,
                0, 2, 0, 1, 0, 0, 0, 0, 0, 0, 0, 0, 1, 0, 0, 1, 0));
        due("the castling", x.move(10, 7), digestOf(0, 2, 1, 0, 0, 0, 0, 0, 0, 0, 4, 0, 7, 0, 0, 8,
                0, 1, 0, 1, 0, 0, 0, 0, 0, 0, 0, 0, 1, 0, 0, 0, 0));
        due("the last drop", x.move(30, 7), digestOf(1, 0, 0, 2, 0, 0, 0, 0, 0, 0, 4, 4, 7, 0, 0, 8,
                0, 1, 0, 0, 0, 0, 0, 0, 0, 0, 0, 0, 1, 0, 0, 1, 0));
        due("the position stays", x.digest(), digestOf(1, 0, 0, 2, 0, 0, 0, 0, 0, 0, 4, 0, 7, 0, 0, 8,
                0, 1, 0, 1, 0, 0, 0, 0, 0, 0, 0, 0, 0, 0, 0, 1, 0));
        says("Returns the property; NONE if there is no such move or what is invalid.");
        middle();
        for (int move : NO_MOVES) {
            due("move " + move, x.move(move, 0), NONE);
            due("move " + move, x.move(move, 8), NONE);
        }
        for (int what : new int[] {-1, 8, LOWEST, HIGHEST}) {
            due("what " + what, x.move(0, what), NONE);
        }
        x.size(2, 2);
        due("the first of none", x.move(0, 0), NONE);
    }

    private void testProof() {
        section(14);
        says("Returns why a move of a man is not legal.");
        dangers();
        due("an attack", x.proof(0, 1), 13);
        due("no move is made", x.count(4), 0);
        due("nothing has moved", x.at(0), 0);
        says("`from`: the square from which it goes");
        dangers();
        due("the first", x.proof(0, 0), -7);
        due("the last", x.proof(15, 0), -6);
        due("behind it", x.proof(16, 0), NONE);
        due("before the first", x.proof(-1, 0), NONE);
        says("`to`: the square to which it goes");
        dangers();
        due("the last", x.proof(0, 15), -7);
        due("behind it", x.proof(0, 16), NONE);
        due("before the first", x.proof(0, -1), NONE);
        says("Returns -5 if it is legal;");
        dangers();
        x.rule(1, 2);
        due("by rule 2", x.proof(0, 1), NOTHING);
        due("by rule 2", x.proof(0, 5), NOTHING);
        says("-6 if there is no man of the side to move on from;");
        dangers();
        due("an empty square", x.proof(1, 0), -6);
        due("a man of the other side", x.proof(6, 7), -6);
        x.side(1);
        due("a man of the other side", x.proof(0, 1), -6);
        due("a man of the side", x.proof(6, 7), NOTHING);
        says("-7 if no part of it goes there;");
        dangers();
        due("where it stands", x.proof(0, 0), -7);
        due("too far", x.proof(0, 2), -7);
        due("round the edge", x.proof(0, 3), -7);
        setup("4/4/BB2/AB2");
        due("on its own men", x.proof(0, 5), -7);
        says("otherwise the lowest square with a man that attacks a royal man of the side after the move;");
        dangers();
        due("the highest of them", x.proof(0, 1), 13);
        due("another one", x.proof(0, 4), 6);
        due("both", x.proof(0, 5), 6);
        setup("3b/4/4/A2B");
        due("the last square", x.proof(3, 2), NOTHING);
        setup("b3/4/B3/A3");
        due("uncovered by its own man", x.proof(4, 5), 12);
        x.side(1);
        setup("a3/4/b3/B3");
        x.side(1);
        due("the first square", x.proof(4, 5), 0);
        says("NONE if there is no such square.");
        dangers();
        for (int square : new int[] {-1, 16, LOWEST, HIGHEST}) {
            due("from " + square, x.proof(square, 1), NONE);
            due("to " + square, x.proof(0, square), NONE);
            due("both " + square, x.proof(square, square), NONE);
        }
    }

    /** The white king's three moves lead to attacks of the rook on 13, of that on 6, and of both. */
    private void dangers() {
        x.size(4, 4);
        define(0, "king");
        define(1, "rook");
        x.type(0, 0, 1);
        setup("1b2/4/2b1/A3");
    }

    private void testMake() {
        section(15);
        says("Makes a legal move.");
        middle();
        due("the last drop", x.make(30), 1);
        due("there it is", x.at(11), 3);
        due("Black to move", x.count(3), 1);
        says("`move`: the move");
        middle();
        due("the first", x.make(0), 1);
        due("there it is", x.at(1), 0);
        due("it is gone", x.at(0), NOTHING);
        says("Returns how often the new position has occurred in this game, this time included;");
        toAndFro();
        for (int n = 1; n <= 40; n++) {
            due("move " + n, x.make(0), n / 4 + 1);
        }
        says("NONE if there is no such move;");
        middle();
        for (int move : NO_MOVES) {
            due("move " + move, x.make(move), NONE);
        }
        due("none is made", x.count(4), 0);
        x.size(2, 2);
        due("the first of none", x.make(0), NONE);
        says("FULL if 40 moves are made and not taken back.");
        toAndFro();
        make(39);
        due("the last one", x.make(0), 11);
        int digest = x.digest();
        due("one more", x.make(0), FULL);
        due("NONE comes first", x.make(1), NONE);
        due("NONE comes first", x.make(-1), NONE);
        due("forty are made", x.count(4), 40);
        due("the position stays", x.digest(), digest);
        due("it has occurred as often", x.count(5), 11);
        due("one is taken back", x.back(), 39);
        due("there is room for one", x.make(0), 11);
        due("and not for two", x.make(0), FULL);
        due("Black's turn", x.side(1), 0);
        due("in a new game", x.make(0), 1);
    }

    private void testBack() {
        section(16);
        says("Takes the latest move of this game back.");
        middle();
        int[] kinds = {0, 7, 8, 9, 10, 11, 30};
        int digest = x.digest();
        for (int move : kinds) {
            x.make(move);
            due("made", x.count(4), 1);
            due("back", x.back(), 0);
            due("the position after move " + move, x.digest(), digest);
            due("it has occurred", x.count(5), 1);
        }
        says("Returns the number of moves that are still made;");
        toAndFro();
        int start = x.digest();
        make(40);
        for (int n = 39; n >= 0; n--) {
            due("back", x.back(), n);
        }
        due("where it began", x.digest(), start);
        says("STATE if none is made.");
        due("a new board", x.back(), STATE);
        toAndFro();
        due("a new game", x.back(), STATE);
        x.make(0);
        due("one", x.back(), 0);
        due("no second one", x.back(), STATE);
        due("White to move", x.count(3), 0);
        x.make(0);
        x.rule(0, 0);
        due("behind the game's start", x.back(), STATE);
        due("the move stays", x.at(1), 0);
    }

    private void testAttackers() {
        section(17);
        says("Returns the squares from which men of a side attack a square.");
        middle();
        dueSet("by the king and the rook", x.attackers(1, 0), 0, 3);
        dueSet("by the pawn and the rook", x.attackers(15, 0), 3, 10);
        dueSet("not where the pawn moves", x.attackers(14, 0));
        dueSet("Black's", x.attackers(13, 1), 12, 15);
        says("`square`: the square");
        x.size(6, 6);
        men();
        setup("a5/6/6/6/6/B5");
        dueSet("the first", x.attackers(0, 0));
        dueSet("the last of the column", x.attackers(30, 0), 0);
        setup("5B/6/6/6/6/6");
        dueSet("the last", x.attackers(35, 0));
        dueSet("beside it", x.attackers(34, 0), 35);
        dueSet("of the first row", x.attackers(5, 0), 35);
        says("`side`: the side");
        middle();
        dueSet("White's", x.attackers(5, 0), 0);
        dueSet("Black's", x.attackers(5, 1));
        says("Returns these squares; NO if there is no such square or side.");
        middle();
        for (int square : new int[] {-1, 16, 64, LOWEST, HIGHEST}) {
            due("square " + square, x.attackers(square, 0), NO);
        }
        for (int side : NO_SIDES) {
            due("side " + side, x.attackers(0, side), NO);
            due("neither", x.attackers(16, side), NO);
        }
        dueSet("the last square", x.attackers(15, 1));
    }

    private void testAttacked() {
        section(18);
        says("Returns the squares that the men of a side attack.");
        middle();
        dueSet("White's", x.attacked(0), 1, 4, 5, 2, 0, 7, 11, 15, 13);
        dueSet("Black's", x.attacked(1), 8, 9, 13, 14, 12, 11, 7, 3);
        says("`side`: the side");
        dueSet("White's of none", x.attacked(0));
        dueSet("Black's of none", x.attacked(1));
        x.size(6, 6);
        define(0, "K0");
        setup("5A/6/6/6/6/a5");
        dueSet("White's", x.attacked(0), 34, 33, 32, 31, 30, 29, 23, 17, 11, 5, 28, 21, 14, 7, 0);
        dueSet("Black's", x.attacked(1), 1, 2, 3, 4, 5, 6, 12, 18, 24, 30, 7, 14, 21, 28, 35);
        says("Returns these squares; NO if there is no such side.");
        for (int side : NO_SIDES) {
            due("side " + side, x.attacked(side), NO);
        }
    }

    private void testStatus() {
        section(19);
        says("Returns the state of the game.");
        middle();
        due("it goes on", x.status(), 0);
        says("Returns 0 if the side to move has legal moves;");
        x.size(3, 3);
        define(0, "W");
        define(1, "W0");
        x.type(0, 0, 1);
        setup("b1b/3/A2");
        due("one move, though not safe", x.status(), 0);
        due("it is one", x.moves(3), 1);
        says("otherwise 1 if it is not safe, 2 if it is.");
        x.size(3, 3);
        define(0, "W");
        define(1, "W0");
        x.type(0, 0, 1);
        setup("bb1/3/A2");
        due("not safe", x.status(), 1);
        due("no moves", x.moves(3), 0);
        setup("1b1/2b/A2");
        due("safe", x.status(), 2);
        due("no moves", x.moves(3), 0);
        setup("3/3/3");
        due("no men", x.status(), 2);
        x.hand(0, 1, 1);
        due("a man in the hand without drops", x.status(), 2);
        x.rule(0, 1);
        due("with drops", x.status(), 0);
    }

    private void testSequences() {
        section(20);
        says("Returns the number of sequences of legal moves with a length.");
        toAndFro();
        due("one", x.sequences(1, 0), 1);
        due("two", x.sequences(2, 0), 1);
        says("`depth`: the length, 0 to 2; for 0 the number is 1");
        middle();
        due("0", x.sequences(0, 0), 1);
        due("1", x.sequences(1, 0), 31);
        int pairs = 0;
        for (int move = 0; move < 31; move++) {
            x.make(move);
            pairs += x.moves(3);
            x.back();
        }
        due("2", x.sequences(2, 0), pairs);
        x.size(2, 2);
        due("0 without moves", x.sequences(0, 0), 1);
        due("1 without moves", x.sequences(1, 0), 0);
        due("2 without moves", x.sequences(2, 0), 0);
        says("`way`: 0 for counting by moves that are made and taken back, 1 for counting in copies of the board; "
                + "both give the same");
        middle();
        int digest = x.digest();
        for (int depth = 0; depth <= 2; depth++) {
            due("depth " + depth, x.sequences(depth, 1), x.sequences(depth, 0));
        }
        due("the position stays", x.digest(), digest);
        due("no move is made", x.count(4), 0);
        x.size(6, 6);
        x.type(0, 0, 0);
        x.type(3, 1, -1);
        for (int i = 0; i < 12; i++) {
            x.hand(i / 6, i % 6, 1);
        }
        for (int way = 0; way < 2; way++) {
            due("six types on all squares", x.sequences(1, way), 216);
            due("and then on all but one", x.sequences(2, way), 216 * 210);
        }
        says("Returns the number; BAD if depth is out of range;");
        for (int depth : new int[] {-1, 3, LOWEST, HIGHEST}) {
            due("depth " + depth, x.sequences(depth, 0), BAD);
            due("depth " + depth, x.sequences(depth, 1), BAD);
            due("BAD before NONE", x.sequences(depth, 2), BAD);
        }
        says("NONE if way is neither 0 nor 1.");
        for (int way : new int[] {-1, 2, LOWEST, HIGHEST}) {
            for (int depth = 0; depth <= 2; depth++) {
                due("way " + way, x.sequences(depth, way), NONE);
            }
        }
    }

    private void testText() {
        section(21);
        says("Returns a character of the text of the position.");
        x.size(2, 2);
        define(0, "W");
        setup("1a/A1");
        dueText("all", text(), "1a/A1");
        says("`i`: the index, from 0, or -1 for the length");
        due("the length", x.text(-1), 9);
        due("the first", x.text(0), '5');
        due("the last", x.text(8), '5');
        x.size(2, 2);
        due("the least length", x.text(-1), 3);
        x.size(6, 6);
        define(5, "W");
        setup("ffffff/ffffff/ffffff/ffffff/ffffff/fffffF");
        due("the greatest length", x.text(-1), 41);
        due("its first", x.text(0), 'f');
        due("between rows", x.text(6), '/');
        due("its last", x.text(40), 'F');
        due("behind it", x.text(41), NONE);
        says("Returns the character or the length; NONE if there is no such character.");
        for (int i : new int[] {-2, 9, 10, LOWEST, HIGHEST}) {
            due("character " + i, x.text(i), NONE);
        }
    }

    private void testTold() {
        section(22);
        says("Returns a character of the text of a legal move.");
        middle();
        due("the first of the first", x.told(0, 0), 'A');
        due("the last of the last", x.told(30, 3), '3');
        says("For a man, it is its letter, the column from which it goes as a letter from a on, "
                + "the row as a digit from 1 on, x if it captures, otherwise -, the square to which it goes likewise, "
                + "and = with the letter of what it becomes if it promotes;");
        middle();
        dueText("a move", told(0), "Aa1-b1");
        dueText("a capture", told(7), "Bd1xd4+");
        dueText("a promotion", told(8), "Dc3-c4=B+");
        dueText("both", told(9), "Dc3xd4=B+");
        x.size(6, 6);
        setup("5B/6/6/6/6/A5");
        dueText("between the first and the last square", told(3), "Bf6-f1");
        says("for a castling O and the slot as a digit;");
        middle();
        dueText("slot 2", told(10), "O2");
        x.castle(0, 0, 0, 2, 3, 1);
        x.castle(3, 0, 0, 2, 3, 1);
        dueText("the first slot", told(10), "O0");
        dueText("the last slot", told(12), "O3");
        says("for a drop the letter, @ and the square.");
        middle();
        dueText("the first", told(11), "B@b1");
        dueText("the last", told(30), "D@d3");
        says("Behind that stands + if the other side is not safe then.");
        middle();
        dueText("a drop", told(13), "B@a2+");
        dueText("another drop", told(29), "D@b3+");
        x.rule(1, 2);
        dueText("none by rule 2", told(13), "B@a2");
        setup("1a2/4/4/A2B");
        x.castle(2, 0, 0, 2, 3, 1);
        x.rule(1, 0);
        dueText("a castling", told(x.moves(0)), "O2+");
        testToldErrors();
    }

    private void testToldErrors() {
        says("Letters of men are capital ones for White.");
        middle();
        dueText("White's", told(8), "Dc3-c4=B+");
        setup("a3/4/1d2/3A");
        x.side(1);
        x.hand(1, 1, 1);
        int first = x.moves(0);
        dueText("Black's", told(moveOf(12, 8)), "aa4-a3");
        dueText("Black's pawn", told(moveOf(5, 1)), "db2-b1=b+");
        dueText("Black's drop", told(first), "b@a1+");
        says("`move`: the move");
        middle();
        due("the first", x.told(0, -1), 6);
        due("the last", x.told(30, -1), 4);
        due("behind it", x.told(31, -1), NONE);
        says("`i`: the index, from 0, or -1 for the length");
        middle();
        due("the shortest", x.told(10, -1), 2);
        due("the longest", x.told(9, -1), 9);
        due("its first", x.told(9, 0), 'D');
        due("its last", x.told(9, 8), '+');
        says("Returns the character or the length; NONE if there is no such move or character.");
        middle();
        for (int move : NO_MOVES) {
            due("move " + move, x.told(move, 0), NONE);
            due("the length of " + move, x.told(move, -1), NONE);
        }
        for (int i : new int[] {-2, 9, LOWEST, HIGHEST}) {
            due("character " + i, x.told(9, i), NONE);
        }
        due("behind a shorter one, though a longer one was told before", x.told(10, 2), NONE);
        x.size(2, 2);
        due("the first of none", x.told(0, -1), NONE);
    }

    private void testProperty() {
        section(23);
        says("Returns a property of a type.");
        men();
        due("parts", x.property(3, 0), 2);
        says("`type`: the type");
        define(0, "WW");
        define(5, "WWW");
        due("the first", x.property(0, 0), 2);
        due("the last", x.property(5, 0), 3);
        says("`what`: 0 the number of its parts, K counted once, -5 if it is undefined;");
        define(0, "K");
        define(1, "K0FK");
        define(2, "KKKKKK");
        due("one", x.property(0, 0), 1);
        due("three", x.property(1, 0), 3);
        due("six", x.property(2, 0), 6);
        due("undefined", x.property(3, 0), NOTHING);
        says("1 the number of directions of all parts for White, a direction of several parts counted each time, "
                + "0 if it is undefined;");
        define(0, "W");
        define(1, "WW");
        define(2, "WK");
        define(3, "mfWcfF");
        define(4, "NNNCCC");
        int[] directions = {4, 8, 12, 3, 48, 0};
        for (int type = 0; type < 6; type++) {
            due("directions of " + type, x.property(type, 1), directions[type]);
        }
        says("2 whether it is royal;");
        x.type(5, 0, 1);
        due("royal", x.property(5, 2), 1);
        due("not royal", x.property(0, 2), 0);
        says("3 its promotion type, -1 if none;");
        x.type(0, 1, 5);
        x.type(5, 1, 0);
        due("the last", x.property(0, 3), 5);
        due("the first", x.property(5, 3), 0);
        due("none", x.property(1, 3), -1);
        says("4 its men on the board;");
        x.size(2, 2);
        men();
        setup("aA/BA");
        x.hand(0, 2, 9);
        due("of both sides", x.property(0, 4), 3);
        due("one", x.property(1, 4), 1);
        due("none, though in a hand", x.property(2, 4), 0);
        setup("aA/Aa");
        due("all squares", x.property(0, 4), 4);
    }

    private void testPropertyErrors() {
        says("5 the moves that a man of White has at most on an empty board of this size, over all squares");
        String[] texts = {"K0", "K", "N", "fW", "cW", "hW0"};
        for (int type = 0; type < 6; type++) {
            define(type, texts[type]);
        }
        int[] most = {16, 8, 8, 1, 0, 0};
        for (int type = 0; type < 6; type++) {
            due("five by five: " + texts[type], x.property(type, 5), most[type]);
        }
        setup("AAAAA/AAAAA/AAAAA/AAAAA/AAAAA");
        due("though the board is full", x.property(0, 5), 16);
        x.size(2, 2);
        most = new int[] {3, 3, 0, 1, 0, 0};
        for (int type = 0; type < 6; type++) {
            due("two by two: " + texts[type], x.property(type, 5), most[type]);
        }
        x.size(6, 6);
        most = new int[] {19, 8, 8, 1, 0, 0};
        for (int type = 0; type < 6; type++) {
            due("six by six: " + texts[type], x.property(type, 5), most[type]);
        }
        define(5, "mWW0cF");
        due("a move of several parts is one", x.property(5, 5), 10);
        says("Returns the property; NONE if there is no such type or what is invalid.");
        for (int type : NO_TYPES) {
            due("type " + type, x.property(type, 0), NONE);
            due("neither", x.property(type, 6), NONE);
        }
        for (int what : new int[] {-1, 6, LOWEST, HIGHEST}) {
            due("what " + what, x.property(0, what), NONE);
        }
        due("the last of an undefined type", x.property(5, 5), 0);
    }

    private void testDigest() {
        section(24);
        says("Returns the digest of the position.");
        x.size(2, 2);
        due("empty", x.digest(), digestOf(new int[4 + 12 + 1 + 4]));
        x.size(6, 6);
        due("of the greatest board", x.digest(), digestOf(new int[36 + 12 + 1 + 4]));
        says("Returns the digest.");
        x.size(2, 2);
        define(0, "W");
        define(5, "W");
        setup("fA/1F");
        x.hand(0, 0, 9);
        x.hand(1, 5, 9);
        x.castle(0, 0, 0, 0, 1, 1);
        x.castle(3, 0, 2, 2, 3, 3);
        x.side(1);
        due("with the greatest numbers", x.digest(), digestOf(0, 6, 12, 1, 9, 0, 0, 0, 0, 0, 0, 0, 0, 0, 0, 9, 1,
                1, 0, 0, 1));
    }

    private void testImage() {
        section(25);
        says("Takes a snapshot, in place of an earlier one.");
        x.size(2, 2);
        define(0, "W");
        x.image();
        setup("2/A1");
        x.image();
        setup("AA/AA");
        due("undo", x.undo(), 1);
        dueText("the later one", text(), "2/A1");
        says("Returns the number of men on the board.");
        due("none", x.image(), 0);
        x.size(2, 2);
        define(0, "W");
        x.hand(0, 0, 9);
        due("none, though in a hand", x.image(), 0);
        setup("aa/AA");
        due("all squares", x.image(), 4);
        due("once more", x.image(), 4);
    }

    private void testUndo() {
        section(26);
        says("Restores the snapshot, which stays.");
        toAndFro();
        make(40);
        x.image();
        int digest = x.digest();
        for (int times = 0; times < 2; times++) {
            x.back();
            x.size(6, 6);
            define(0, "N");
            setup("6/6/6/6/6/A5");
            due("moves meanwhile", x.moves(3), 2);
            due("undo", x.undo(), 2);
            due("digest", x.digest(), digest);
            due("forty are made", x.count(4), 40);
            due("occurred", x.count(5), 11);
            due("moves", x.moves(3), 1);
            due("no more", x.make(0), FULL);
        }
        for (int n = 39; n >= 0; n--) {
            due("back", x.back(), n);
        }
        due("no further", x.back(), STATE);
        says("Returns the number of men on the board;");
        x.image();
        x.size(2, 2);
        define(0, "W");
        setup("aa/AA");
        due("none", x.undo(), 0);
        x.size(2, 2);
        define(0, "W");
        setup("aa/AA");
        x.image();
        x.size(6, 6);
        due("four", x.undo(), 4);
        says("STATE if there is no snapshot.");
        toAndFro();
        x.make(0);
        int before = x.digest();
        due("none was taken", x.undo(), STATE);
        due("the position stays", x.digest(), before);
        due("the game goes on", x.count(4), 1);
        x.image();
        due("one was taken", x.undo(), 2);
    }

    private void testCount() {
        section(27);
        says("Returns a count.");
        due("columns", x.count(1), 5);
        says("`what`: 0 the men on the board;");
        x.size(2, 2);
        define(0, "W");
        due("none", x.count(0), 0);
        setup("aa/AA");
        due("all squares", x.count(0), 4);
        says("1 the columns; 2 the rows;");
        x.size(2, 6);
        due("columns", x.count(1), 2);
        due("rows", x.count(2), 6);
        says("3 the side to move;");
        due("White", x.count(3), 0);
        x.side(1);
        due("Black", x.count(3), 1);
        says("4 the moves made in this game;");
        toAndFro();
        for (int n = 0; n < 40; n++) {
            due("made", x.count(4), n);
            x.make(0);
        }
        due("forty", x.count(4), 40);
        x.back();
        due("thirty-nine", x.count(4), 39);
        x.side(0);
        due("in a new game", x.count(4), 0);
        says("5 how often the position has occurred in this game;");
        toAndFro();
        due("at first", x.count(5), 1);
        for (int n = 1; n <= 40; n++) {
            x.make(0);
            due("after " + n, x.count(5), n / 4 + 1);
        }
        x.back();
        due("after taking one back", x.count(5), 10);
        says("6 the castlings; 7 those with their right;");
        middle();
        x.castle(0, 1, 12, 13, 14, 15);
        x.castle(1, 1, 13, 14, 15, 12);
        x.castle(3, 1, 13, 14, 15, 12);
        due("castlings", x.count(6), 4);
        due("rights", x.count(7), 4);
        go(10, 15);
        due("castlings", x.count(6), 4);
        due("rights", x.count(7), 2);
        says("8 the bytes on the tape;");
        for (int n = 0; n < 60; n++) {
            due("bytes", x.count(8), n);
            x.feed('W');
        }
        due("full", x.count(8), 60);
        says("9 and 10 the rules 0 and 1;");
        x.rule(0, 1);
        due("drops", x.count(9), 1);
        due("the royal rule", x.count(10), 0);
        x.rule(1, 2);
        due("the royal rule", x.count(10), 2);
        testCountHands();
    }

    private void testCountHands() {
        says("20 + 6 * side + type the men of a type in a hand");
        for (int i = 0; i < 12; i++) {
            due("set", x.hand(i / 6, i % 6, 9 - i % 10), 0);
        }
        for (int i = 0; i < 12; i++) {
            due("count " + (20 + i), x.count(20 + i), 9 - i % 10);
        }
        says("Returns the count; NONE if what is invalid.");
        for (int what : new int[] {-1, 11, 19, 32, LOWEST, HIGHEST}) {
            due("count " + what, x.count(what), NONE);
        }
        due("the last of the first", x.count(10), 0);
        due("the first of the hands", x.count(20), 0);
        due("the last of the hands", x.count(31), 0);
    }
}
