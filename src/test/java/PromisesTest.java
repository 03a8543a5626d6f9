import java.util.Arrays;

/** For each promise of the document: ordinary calls, the edges that it names, and wrong arguments. */
public final class PromisesTest {
    private static final int NONE = -1, BAD = -2, STATE = -3, FULL = -4, NOTHING = -5;
    private static final long NO = Long.MIN_VALUE;
    private static final int[] ODD = {Integer.MIN_VALUE, -1000, Integer.MAX_VALUE, 1 << 20};

    private static int wrong;
    private static int checked;
    private static String promise = "";

    private VariantBoard x = new VariantBoard();

    public static void main(String[] args) {
        new PromisesTest().constants();
        new PromisesTest().promise1NewObject();
        new PromisesTest().promise2Feed();
        new PromisesTest().promise3Size();
        new PromisesTest().promise4Define();
        new PromisesTest().promise5Type();
        new PromisesTest().promise6Rule();
        new PromisesTest().promise7Setup();
        new PromisesTest().promise8Side();
        new PromisesTest().promise9Hand();
        new PromisesTest().promise10Castle();
        new PromisesTest().promise11At();
        new PromisesTest().promise12Moves();
        new PromisesTest().promise12Parts();
        new PromisesTest().promise12Order();
        new PromisesTest().promise12Castlings();
        new PromisesTest().promise12Drops();
        new PromisesTest().promise12RoyalRules();
        new PromisesTest().promise13Move();
        new PromisesTest().promise14Proof();
        new PromisesTest().promise15Make();
        new PromisesTest().promise15Rights();
        new PromisesTest().promise15Hands();
        new PromisesTest().promise16Back();
        new PromisesTest().promise17Attackers();
        new PromisesTest().promise18Attacked();
        new PromisesTest().promise19Status();
        new PromisesTest().promise20Sequences();
        new PromisesTest().promise21Text();
        new PromisesTest().promise22Told();
        new PromisesTest().promise23Property();
        new PromisesTest().promise24Digest();
        new PromisesTest().promise25Image();
        new PromisesTest().promise26Undo();
        new PromisesTest().promise27Count();
        new PromisesTest().games();
        System.out.println(checked + " answers checked, " + wrong + " wrong");
        if (wrong != 0) {
            System.exit(1);
        }
    }

    private static void due(String call, long got, long want) {
        checked++;
        if (got != want) {
            wrong++;
            System.out.println(promise + ": " + call + " answered " + got + ", due is " + want);
        }
    }

    private static void dueText(String call, String got, String want) {
        checked++;
        if (!got.equals(want)) {
            wrong++;
            System.out.println(promise + ": " + call + " answered " + got + ", due is " + want);
        }
    }

    private void feed(String text) {
        for (int i = 0; i < text.length(); i++) {
            x.feed(text.charAt(i));
        }
    }

    private int define(int type, String text) {
        feed(text);
        return x.define(type);
    }

    private int setup(String text) {
        feed(text);
        return x.setup();
    }

    private String text() {
        StringBuilder text = new StringBuilder();
        for (int i = 0; i < x.text(-1); i++) {
            text.append((char) x.text(i));
        }
        return text.toString();
    }

    private String told(int move) {
        StringBuilder text = new StringBuilder();
        for (int i = 0; i < x.told(move, -1); i++) {
            text.append((char) x.told(move, i));
        }
        return text.toString();
    }

    /** All legal moves, told in their order. */
    private String all() {
        StringBuilder text = new StringBuilder();
        for (int move = 0; move < x.moves(3); move++) {
            text.append(move > 0 ? " " : "").append(told(move));
        }
        return text.toString();
    }

    private int make(String told) {
        for (int move = 0; move < x.moves(3); move++) {
            if (told(move).equals(told)) {
                return x.make(move);
            }
        }
        return -1000;
    }

    private static long set(int... squares) {
        long set = 0;
        for (int square : squares) {
            set |= 1L << square;
        }
        return set;
    }

    /** King A, rook B, knight C and pawn D that becomes a rook, on a board of six by six. */
    private void commonTypes() {
        x.size(6, 6);
        define(0, "king");
        define(1, "rook");
        define(2, "knight");
        define(3, "pawn");
        x.type(0, 0, 1);
        x.type(3, 1, 1);
    }

    private void constants() {
        promise = "constants";
        due("NONE", VariantBoard.NONE, -1);
        due("BAD", VariantBoard.BAD, -2);
        due("STATE", VariantBoard.STATE, -3);
        due("FULL", VariantBoard.FULL, -4);
        due("NO", VariantBoard.NO, Long.MIN_VALUE);
    }

    private void promise1NewObject() {
        promise = "1 a new object";
        int[] counts = {0, 5, 5, 0, 0, 1, 0, 0, 0, 0, 0};
        for (int what = 0; what < counts.length; what++) {
            due("count " + what, x.count(what), counts[what]);
        }
        for (int what = 20; what < 32; what++) {
            due("count " + what, x.count(what), 0);
        }
        for (int square = 0; square < 25; square++) {
            due("at " + square, x.at(square), NOTHING);
        }
        for (int type = 0; type < 6; type++) {
            due("parts", x.property(type, 0), NOTHING);
            due("directions", x.property(type, 1), 0);
            due("royal", x.property(type, 2), 0);
            due("promotion", x.property(type, 3), -1);
        }
        dueText("text", text(), "5/5/5/5/5");
        due("digest", x.digest(), 962091729);
        due("moves", x.moves(3), 0);
        due("status", x.status(), 2);
        due("back", x.back(), STATE);
        due("undo", x.undo(), STATE);
    }

    private void promise2Feed() {
        promise = "2 feed";
        due("feed(0)", x.feed(0), 1);
        due("feed(127)", x.feed(127), 2);
        due("feed(-1)", x.feed(-1), BAD);
        due("feed(128)", x.feed(128), BAD);
        for (int v : ODD) {
            due("feed " + v, x.feed(v), BAD);
        }
        for (int n = 3; n <= 60; n++) {
            due("feed " + n, x.feed('W'), n);
        }
        due("a full tape", x.feed('W'), FULL);
        due("out of range before a full tape", x.feed(128), BAD);
        due("its length", x.count(8), 60);
    }

    private void promise3Size() {
        promise = "3 size";
        due("2 * 2", x.size(2, 2), 4);
        due("6 * 6", x.size(6, 6), 36);
        due("2 * 6", x.size(2, 6), 12);
        dueText("text", text(), "2/2/2/2/2/2");
        for (int[] bad : new int[][] {{1, 5}, {5, 1}, {7, 5}, {5, 7}, {0, 0}, {-3, 4}, {1 << 20, 2}}) {
            due("size " + Arrays.toString(bad), x.size(bad[0], bad[1]), BAD);
        }
        due("columns stay", x.count(1), 2);
        due("rows stay", x.count(2), 6);
        commonTypes();
        x.rule(0, 1);
        x.rule(1, 2);
        setup("6/6/6/6/6/A4B");
        x.hand(0, 1, 3);
        x.hand(1, 2, 4);
        x.castle(0, 0, 0, 2, 5, 1);
        x.side(1);
        feed("ab");
        due("3 * 4", x.size(3, 4), 12);
        int[] counts = {0, 3, 4, 0, 0, 1, 0, 0, 2, 1, 2};
        for (int what = 0; what < counts.length; what++) {
            due("count " + what, x.count(what), counts[what]);
        }
        due("White's hand", x.count(21), 0);
        due("Black's hand", x.count(28), 0);
        due("types stay", x.property(3, 0), 2);
        due("royals stay", x.property(0, 2), 1);
        due("promotions stay", x.property(3, 3), 1);
    }

    private void promise4Define() {
        promise = "4 define";
        Object[][] texts = {
            {"king", 1}, {"queen", 1}, {"rook", 1}, {"bishop", 1}, {"knight", 1}, {"pawn", 2}, {"cannon", 2},
            {"K", 1}, {"K0", 1}, {"W2F3", 2}, {"WFDNAC", 6}, {"WFDNAC5", 6}, {"mcfbshmcfbshN4", 1}, {"mmW", 1},
            {"", -100}, {"m", -101}, {"Wm", -102}, {"k", -101}, {"kin", -103}, {"kinG", -103}, {"kings", -104},
            {"kingW", -104}, {"KING", -101}, {"W1", -101}, {"W6", -101}, {"W22", -102}, {"0W", -100}, {"x", -100},
            {"b", -101}, {"bi", -102}, {"bm", -102}, {"bW", 1}, {"bW0i", -103}, {"bishopm", -106}, {"bishob", -105},
            {"c", -101}, {"ca", -102}, {"cannoW", -105}, {"cW", 1}, {"cannons", -106}, {"queenqueen", -105},
            {"WWWWWW", 6}, {"WWWWWWW", -106}, {"WWWWWWm", -106}, {"WWWWWWmW", -106}, {"WWWWWW2W", -107},
            {"WWWWWW22", -107}, {"WWWWWx", -105}, {"KKKKKK", 6}, {"W\0", -101}, {"pawn\177", -104}, {" W", -100},
            {"mbcfshmbcfshmbcfshmbcfshmbcfshmbcfshmbcfshmbcfshmbcfshmbcfsW", 1},
            {"mbcfshmbcfshmbcfshmbcfshmbcfshmbcfshmbcfshmbcfshmbcfshmbcfsh", -160}};
        for (Object[] text : texts) {
            due("define " + text[0], define(2, (String) text[0]), (Integer) text[1]);
            due("the tape is empty", x.count(8), 0);
        }
        due("a wrong text changes nothing", x.property(2, 0), 1);
        feed("W");
        due("type 6", x.define(6), NONE);
        due("type -1", x.define(-1), NONE);
        for (int v : ODD) {
            due("type " + v, x.define(v), NONE);
        }
        due("the tape stays", x.count(8), 1);
        due("define 5", x.define(5), 1);
        due("another type is as it was", x.property(4, 0), NOTHING);
        define(5, "WF");
        due("in place of what it was", x.property(5, 0), 2);
        due("with fewer parts", define(5, "D"), 1);
        due("its directions", x.property(5, 1), 4);
        words();
    }

    private void words() {
        String[] words = {"king", "queen", "rook", "bishop", "knight", "pawn", "cannon"};
        String[] meanings = {"K", "K0", "W0", "F0", "N", "mfWcfF", "mW0chW0"};
        for (int i = 0; i < words.length; i++) {
            define(0, words[i]);
            define(1, "W");
            due("setup", setup("1b1b1/5/b1A1b/b4/1bb1b"), 9);
            String word = all();
            define(0, meanings[i]);
            dueText(words[i], word, all());
        }
    }

    private void promise5Type() {
        promise = "5 type";
        due("royal", x.type(5, 0, 1), 0);
        due("royal again", x.type(5, 0, 1), 1);
        due("no longer royal", x.type(5, 0, 0), 1);
        due("promotion", x.type(0, 1, 5), -1);
        due("to itself", x.type(0, 1, 0), 5);
        due("to none", x.type(0, 1, -1), 0);
        due("none again", x.type(0, 1, -1), -1);
        due("type 6", x.type(6, 0, 1), NONE);
        due("type -1", x.type(-1, 0, 1), NONE);
        due("what 2", x.type(0, 2, 1), NONE);
        due("what -1", x.type(0, -1, 1), NONE);
        due("royal 2", x.type(0, 0, 2), BAD);
        due("royal -1", x.type(0, 0, -1), BAD);
        due("promotion 6", x.type(0, 1, 6), BAD);
        due("promotion -2", x.type(0, 1, -2), BAD);
        due("NONE before BAD", x.type(6, 0, 7), NONE);
        due("NONE before BAD", x.type(0, 2, 99), NONE);
        x.type(3, 0, 1);
        x.type(3, 1, 2);
        define(3, "W");
        due("royal stays", x.property(3, 2), 1);
        due("promotion stays", x.property(3, 3), 2);
    }

    private void promise6Rule() {
        promise = "6 rule";
        due("drops", x.rule(0, 1), 0);
        due("drops", x.rule(0, 0), 1);
        due("royal rule", x.rule(1, 2), 0);
        due("royal rule", x.rule(1, 1), 2);
        due("royal rule", x.rule(1, 1), 1);
        due("drops 2", x.rule(0, 2), BAD);
        due("drops -1", x.rule(0, -1), BAD);
        due("royal rule 3", x.rule(1, 3), BAD);
        due("royal rule -1", x.rule(1, -1), BAD);
        due("what 2", x.rule(2, 0), NONE);
        due("what -1", x.rule(-1, 0), NONE);
        due("NONE before BAD", x.rule(2, 9), NONE);
        due("unchanged", x.count(9), 0);
        due("unchanged", x.count(10), 1);
    }

    private void promise7Setup() {
        promise = "7 setup";
        define(0, "king");
        define(5, "rook");
        x.type(0, 0, 1);
        x.size(3, 3);
        Object[][] texts = {
            {"3/3/3", 0}, {"AfF/aAa/FfA", 9}, {"111/12/21", 0}, {"A2/1f1/2a", 3},
            {"", -100}, {"3", -101}, {"3/", -102}, {"3/3", -103}, {"3/3/2", -105}, {"3/3/3/", -105}, {"3/3/33", -105},
            {"3/3/3A", -105}, {"4/3/3", -100}, {"6/3/3", -100}, {"22/3/3", -101}, {"2AA/3/3", -102}, {"2/3/3", -101},
            {"/3/3", -100}, {"0/3/3", -100}, {"7/3/3", -100}, {"B2/3/3", -100}, {"b2/3/3", -100}, {"G2/3/3", -100},
            {"g2/3/3", -100}, {"3/3/1B1", -105}, {"3/A3/3", -103}, {"3//3", -102}, {"3 /3/3", -101}, {"@2/3/3", -100},
            {"3/3/3\0", -105}, {"`2/3/3", -100}};
        for (Object[] text : texts) {
            due("setup " + text[0], setup((String) text[0]), (Integer) text[1]);
            due("the tape is empty", x.count(8), 0);
        }
        dueText("a wrong text changes nothing", text(), "A2/1f1/2a");
        x.hand(0, 0, 9);
        x.hand(1, 5, 1);
        x.castle(0, 0, 0, 1, 2, 0);
        setup("3/3/A1F");
        x.side(0);
        due("castled", make("O0"), 1);
        due("the right is gone", x.count(7), 0);
        due("setup", setup("3/3/A1F"), 2);
        due("White's hand", x.count(20), 0);
        due("Black's hand", x.count(31), 0);
        due("White to move", x.count(3), 0);
        due("the castling stays", x.count(6), 1);
        due("its right is back", x.count(7), 1);
        due("corner", x.at(0), 0);
        due("corner", x.at(2), 5);
        x.size(6, 6);
        due("rows from the highest", setup("a4f/6/6/6/6/A4F"), 4);
        due("below", x.at(0), 0);
        due("above", x.at(35), 11);
    }

    private void promise8Side() {
        promise = "8 side";
        due("Black", x.side(1), 0);
        due("Black again", x.side(1), 1);
        due("White", x.side(0), 1);
        due("side 2", x.side(2), BAD);
        due("side -1", x.side(-1), BAD);
        for (int v : ODD) {
            due("side " + v, x.side(v), BAD);
        }
        due("unchanged", x.count(3), 0);
    }

    private void promise9Hand() {
        promise = "9 hand";
        due("9 men", x.hand(1, 5, 9), 0);
        due("none", x.hand(1, 5, 0), 9);
        due("White's", x.hand(0, 0, 4), 0);
        due("more", x.hand(0, 0, 7), 4);
        due("fewer", x.hand(0, 0, 4), 7);
        due("now", x.count(20), 4);
        due("side 2", x.hand(2, 0, 1), NONE);
        due("side -1", x.hand(-1, 0, 1), NONE);
        due("type 6", x.hand(0, 6, 1), NONE);
        due("type -1", x.hand(0, -1, 1), NONE);
        due("10 men", x.hand(0, 0, 10), BAD);
        due("-1 men", x.hand(0, 0, -1), BAD);
        due("NONE before BAD", x.hand(0, 6, 10), NONE);
        due("unchanged", x.count(20), 4);
        due("the other's", x.count(26), 0);
    }

    private void promise10Castle() {
        promise = "10 castle";
        x.size(4, 3);
        due("first", x.castle(3, 1, 8, 10, 11, 9), 1);
        due("second", x.castle(0, 0, 0, 2, 3, 1), 2);
        due("in place of it", x.castle(0, 0, 1, 1, 3, 3), 2);
        due("r is s and p is q", x.castle(1, 0, 4, 4, 5, 5), 3);
        due("slot 4", x.castle(4, 0, 0, 2, 3, 1), NONE);
        due("slot -1", x.castle(-1, 0, 0, 2, 3, 1), NONE);
        due("side 2", x.castle(2, 2, 0, 2, 3, 1), NONE);
        due("side -1", x.castle(2, -1, 0, 2, 3, 1), NONE);
        for (int i = 0; i < 4; i++) {
            for (int v : new int[] {-1, 12, Integer.MIN_VALUE, Integer.MAX_VALUE}) {
                int[] squares = {0, 2, 3, 1};
                squares[i] = v;
                due("square " + v, x.castle(2, 0, squares[0], squares[1], squares[2], squares[3]), NONE);
            }
            int[] rows = {0, 2, 3, 1};
            rows[i] += 4;
            due("another row", x.castle(2, 0, rows[0], rows[1], rows[2], rows[3]), BAD);
        }
        due("r is p", x.castle(2, 0, 0, 2, 0, 1), BAD);
        due("s is q", x.castle(2, 0, 0, 2, 3, 2), BAD);
        due("NONE before BAD", x.castle(2, 2, 0, 2, 0, 1), NONE);
        due("castlings", x.count(6), 3);
        due("rights", x.count(7), 3);
    }

    private void promise11At() {
        promise = "11 at";
        commonTypes();
        x.size(2, 3);
        setup("aD/2/Cb");
        int[] men = {2, 7, NOTHING, NOTHING, 6, 3};
        for (int square = 0; square < 6; square++) {
            due("at " + square, x.at(square), men[square]);
        }
        due("at 6", x.at(6), NONE);
        due("at -1", x.at(-1), NONE);
        for (int v : ODD) {
            due("at " + v, x.at(v), NONE);
        }
    }

    private void promise12Moves() {
        promise = "12 moves";
        commonTypes();
        x.rule(0, 1);
        setup("4db/3D2/6/6/1b4/A4B");
        x.hand(0, 2, 1);
        x.castle(0, 0, 0, 2, 5, 3);
        int[] kinds = {12, 0, 30, 42, 3, 2};
        for (int kind = 0; kind < 6; kind++) {
            due("kind " + kind, x.moves(kind), kinds[kind]);
        }
        due("kind 6", x.moves(6), NONE);
        due("kind -1", x.moves(-1), NONE);
        for (int v : ODD) {
            due("kind " + v, x.moves(v), NONE);
        }
    }

    /** The moves of one man of type A on c3 of five by five, with men of type B around it. */
    private String goes(String parts, String position) {
        x = new VariantBoard();
        due("define " + parts, Math.min(0, define(0, parts)), 0);
        define(1, "mmW");
        due("setup " + position, Math.min(0, setup(position)), 0);
        x.hand(0, 0, 0);
        StringBuilder squares = new StringBuilder();
        for (int move = 0; move < x.moves(3); move++) {
            if (x.move(move, 3) == 0) {
                squares.append(squares.length() > 0 ? " " : "").append(told(move).substring(3));
            }
        }
        return squares.toString();
    }

    private void promise12Parts() {
        promise = "12 moves by parts";
        String alone = "5/5/2A2/5/5";
        String black = "bbbbb/bbbbb/bbAbb/bbbbb/bbbbb";
        dueText("W", goes("W", alone), "-c2 -b3 -d3 -c4");
        dueText("F", goes("F", alone), "-b2 -d2 -b4 -d4");
        dueText("D", goes("D", alone), "-c1 -a3 -e3 -c5");
        dueText("N", goes("N", alone), "-b1 -d1 -a2 -e2 -a4 -e4 -b5 -d5");
        dueText("A", goes("A", alone), "-a1 -e1 -a5 -e5");
        dueText("K", goes("K", alone), "-b2 -c2 -d2 -b3 -d3 -b4 -c4 -d4");
        dueText("C", goes("C", "5/5/5/5/A4"), "-d2 -b4");
        dueText("cW", goes("cW", alone), "");
        dueText("mW", goes("mW", black), "");
        dueText("cW", goes("cW", black), "xc2 xb3 xd3 xc4");
        dueText("mcW", goes("mcW", "5/2b2/2A2/5/5"), "-c2 -b3 -d3 xc4");
        dueText("own men", goes("W", "5/2B2/2A2/5/5"), "-c2 -b3 -d3");
        dueText("fK", goes("fK", alone), "-b4 -c4 -d4");
        dueText("bK", goes("bK", alone), "-b2 -c2 -d2");
        dueText("sK", goes("sK", alone), "-b3 -d3");
        dueText("fbK", goes("fbK", alone), "-b2 -c2 -d2 -b4 -c4 -d4");
        dueText("fsW", goes("fsW", alone), "-b3 -d3 -c4");
        dueText("fN", goes("fN", alone), "-a4 -e4 -b5 -d5");
        dueText("sN", goes("sN", alone), "");
        dueText("sF", goes("sF", alone), "");
        dueText("fD", goes("fD", alone), "-c5");
        dueText("W0", goes("W0", alone), "-c1 -c2 -a3 -b3 -d3 -e3 -c4 -c5");
        dueText("W2", goes("W2", "5/5/5/5/A4"), "-b1 -c1 -a2 -a3");
        dueText("W5", goes("W5", "5/5/5/5/A4"), "-b1 -c1 -d1 -e1 -a2 -a3 -a4 -a5");
        dueText("W3", goes("W3", "5/b4/5/5/A1b2"), "-b1 xc1 -a2 -a3 xa4");
        dueText("W0 before an own man", goes("W0", "5/B4/5/5/A1B2"), "-b1 -a2 -a3");
        dueText("D0 leaps", goes("D0", "5/1b3/5/1b3/Ab1b1"), "-c1 -e1 -a3 -a5");
        dueText("D0 is stopped", goes("D0", "5/5/b4/5/A1b2"), "xc1 xa3");
        dueText("N0", goes("N0", "5/5/5/5/A4"), "-c2 -b3 -e3 -c5");
        dueText("N0 is stopped", goes("N0", "5/5/1B3/2b2/A4"), "xc2");
        dueText("N2", goes("N2", "5/5/5/5/A4"), "-c2 -b3 -e3 -c5");
        dueText("hW", goes("hW", black), "");
        dueText("hW2", goes("hW2", "5/2b2/2AB1/2b2/2b2"), "xc1 -e3 -c5");
        dueText("hW0", goes("hW0", "5/5/5/5/A1B1b"), "-d1 xe1");
        dueText("hW0 over two", goes("hW0", "5/5/5/5/ABb1b"), "xc1");
        dueText("hW0 on an own man", goes("hW0", "5/5/5/5/A1B1B"), "-d1");
        dueText("hW0 over nothing", goes("hW0", alone), "");
        dueText("chW0", goes("chW0", "5/5/5/5/A1B1b"), "xe1");
        dueText("mhW0", goes("mhW0", "5/5/5/5/A1B1b"), "-d1");
        dueText("hN0", goes("hN0", "5/4b/5/2b2/A4"), "-e3");
        dueText("parts together", goes("WK0W", "5/5/5/1B3/A1B2"), "-b1 -a2 -a3 -a4 -a5");
        dueText("parts that differ", goes("mWcF", "5/1bbb1/1bA2/5/5"), "-c2 -d3 xb4 xd4");
        x.size(2, 2);
        define(0, "K0");
        setup("2/A1");
        dueText("two by two", all(), "Aa1-b1 Aa1-a2 Aa1-b2");
        blackMoves();
    }

    private void blackMoves() {
        x = new VariantBoard();
        define(0, "fW");
        define(1, "bF");
        define(2, "fN");
        setup("5/5/a1b1c/5/5");
        x.side(1);
        dueText("Black goes to lower rows", all(), "aa3-a2 bc3-b4 bc3-d4 ce3-d1 ce3-c2");
        define(3, "sW0");
        setup("5/5/1d3/5/5");
        x.side(1);
        dueText("in the row", all(), "db3-a3 db3-c3 db3-d3 db3-e3");
    }

    private void promise12Order() {
        promise = "12 moves in their order";
        x.size(4, 2);
        define(0, "W");
        define(1, "W0");
        x.type(0, 0, 1);
        x.rule(0, 1);
        due("setup", setup("4/A2B"), 2);
        x.hand(0, 5, 1);
        x.hand(0, 2, 2);
        x.castle(2, 0, 0, 2, 3, 1);
        x.castle(1, 0, 0, 0, 3, 1);
        dueText("all", all(), "Aa1-b1 Aa1-a2 Bd1-b1 Bd1-c1 Bd1-d2 O1 O2 "
                + "C@b1 C@c1 C@a2 C@b2 C@c2 C@d2 F@b1 F@c1 F@a2 F@b2 F@c2 F@d2");
        int[] kinds = {5, 2, 12, 19, 0, 0};
        for (int kind = 0; kind < 6; kind++) {
            due("kind " + kind, x.moves(kind), kinds[kind]);
        }
    }

    private int castlings(String position) {
        setup(position);
        return x.moves(1);
    }

    private void promise12Castlings() {
        promise = "12 castlings";
        x.size(6, 2);
        define(0, "W");
        define(1, "fW0");
        define(2, "D");
        x.type(0, 0, 1);
        x.castle(0, 0, 1, 3, 5, 2);
        due("possible", castlings("6/1A3B"), 1);
        due("another first man", castlings("6/1B3B"), 0);
        due("no first man", castlings("6/5B"), 0);
        due("a black first man", castlings("6/1a3B"), 0);
        due("a black second man", castlings("6/1A3b"), 0);
        due("no second man", castlings("6/1A4"), 0);
        due("a royal second man", castlings("6/1A3A"), 1);
        due("a man between", castlings("6/1A1B1B"), 0);
        due("a man between", castlings("6/1A2bB"), 0);
        due("a man beside", castlings("6/BA3B"), 1);
        due("r attacked", castlings("1b4/1A3B"), 0);
        due("between attacked", castlings("2b3/1A3B"), 0);
        due("s attacked", castlings("3b2/1A3B"), 0);
        due("behind s attacked", castlings("4b1/1A3B"), 1);
        due("p attacked", castlings("5b/1A3B"), 1);
        x.rule(1, 2);
        due("attacked whatever the rule", castlings("2b3/1A3B"), 0);
        due("s attacked whatever the rule", castlings("3b2/1A3B"), 0);
        due("r attacked whatever the rule", castlings("1b4/1A3B"), 0);
        x.rule(1, 0);
        setup("6/1A3B");
        x.side(1);
        due("the other side", x.moves(1), 0);
        x.castle(0, 0, 2, 0, 3, 5);
        due("s and q empty", castlings("6/2AB2"), 1);
        due("s not empty", castlings("6/B1AB2"), 0);
        due("q not empty", castlings("6/2AB1b"), 0);
        due("between r and s is free to stand", castlings("6/1BAB2"), 1);
        x.castle(0, 0, 2, 3, 3, 2);
        due("changing squares", castlings("6/2AB2"), 1);
        make("O0");
        dueText("changed", text(), "6/2BA2");
        x.back();
        dueText("and back", text(), "6/2AB2");
        x.castle(0, 0, 2, 2, 3, 3);
        due("staying", castlings("6/2AB2"), 1);
        make("O0");
        dueText("stayed", text(), "6/2AB2");
        due("its right is lost", x.count(7), 0);
        x.castle(0, 0, 0, 2, 2, 3);
        due("s is p", castlings("6/A1B3"), 1);
        make("O0");
        dueText("moved", text(), "6/2AB2");
        x.castle(0, 1, 0, 2, 2, 3);
        due("of the other side, with men of this one", castlings("6/A1B3"), 0);
        x.side(1);
        due("of this side, with men of the other one", x.moves(1), 0);
        x.castle(0, 1, 6, 8, 11, 7);
        setup("a4b/6");
        x.side(1);
        due("Black's", x.moves(1), 1);
        setup("a4b/1B4");
        x.side(1);
        due("Black's, attacked", x.moves(1), 0);
        x.castle(0, 0, 0, 2, 5, 1);
        setup("4a1/A4B");
        make("Aa1-b1");
        make("ae2-d2");
        make("Ab1-a1");
        due("to and fro", make("ad2-e2"), 1);
        due("without its right", x.moves(1), 0);
        due("its men are there", x.at(0) + x.at(5), 1);
        castlingIntoDanger();
    }

    private void castlingIntoDanger() {
        x.size(6, 2);
        define(1, "W0");
        x.castle(0, 0, 2, 1, 0, 4);
        due("uncovering an attack", castlings("b5/B1A3"), 1);
        x.castle(0, 0, 2, 1, 3, 0);
        due("into safety", castlings("6/2ABb1"), 0);
        x.castle(0, 0, 2, 1, 3, 5);
        due("the second man covered the row", castlings("6/2AB1b"), 0);
        x.castle(0, 0, 2, 3, 1, 5);
        due("it leaves the other row covered", castlings("6/bBA3"), 0);
        due("it can go", castlings("6/1BA3"), 1);
    }

    private void promise12Drops() {
        promise = "12 drops";
        x.size(3, 3);
        define(0, "W");
        define(1, "W0");
        x.type(0, 0, 1);
        setup("3/3/A2");
        x.hand(0, 3, 1);
        x.hand(1, 1, 1);
        due("without the rule", x.moves(2), 0);
        x.rule(0, 1);
        due("of an undefined type", x.moves(2), 8);
        x.type(3, 1, 3);
        due("not in the far row", x.moves(2), 5);
        due("dropped", make("D@c2"), 1);
        due("the hand is empty", x.count(23), 0);
        due("Black's drops", x.moves(2), 7);
        x.type(1, 1, 3);
        due("not in Black's far row", x.moves(2), 5);
        x.type(1, 1, 0);
        due("with the promotion type 0, too", x.moves(2), 5);
        x.hand(1, 1, 0);
        x.hand(1, 0, 1);
        due("of the type 0", x.moves(2), 5);
        setup("b2/3/A2");
        x.hand(0, 2, 9);
        dueText("only a drop between saves", all(), "Aa1-b1 C@a2");
    }

    private void promise12RoyalRules() {
        promise = "12 royal rules";
        x.size(3, 3);
        define(0, "W");
        define(1, "W0");
        x.type(0, 0, 1);
        setup("b2/3/A1A");
        dueText("rule 0", all(), "Aa1-b1");
        x.rule(1, 1);
        dueText("rule 1", all(), "Aa1-b1 Aa1-a2 Ac1-b1 Ac1-c2");
        setup("b1b/3/A1A");
        dueText("rule 1, both attacked", all(), "Aa1-b1 Ac1-b1");
        x.rule(1, 2);
        due("rule 2", x.moves(3), 4);
        x.rule(1, 1);
        setup("b1b/3/1B1");
        due("rule 1, none royal", x.moves(3), 4);
        x.rule(1, 0);
        due("rule 0, none royal", x.moves(3), 4);
        promise = "12 a promotion to a royal type";
        define(2, "fW");
        x.type(2, 1, 0);
        setup("b2/2C/3");
        due("not into an attack", x.moves(3), 0);
        x.rule(1, 2);
        due("unless by rule 2", x.moves(5), 1);
    }

    private void dueMove(String told, int... properties) {
        for (int move = 0; move < x.moves(3); move++) {
            if (told(move).equals(told)) {
                for (int what = 0; what < properties.length; what++) {
                    due(told + " " + what, x.move(move, what), properties[what]);
                }
                int digest = x.move(move, 7);
                x.make(move);
                due(told + " 7", digest, x.digest());
                x.back();
                due("what 8", x.move(move, 8), NONE);
                due("what -1", x.move(move, -1), NONE);
                return;
            }
        }
        due("there is no move " + told, 0, 1);
    }

    private void promise13Move() {
        promise = "13 move";
        commonTypes();
        setup("a5/6/6/6/6/A5");
        due("before the moves are asked for", x.move(1, 2), 6);
        x.side(1);
        due("after another call", x.move(0, 2), 24);
        x.rule(0, 1);
        setup("1a3b/4D1/6/6/6/A4B");
        x.hand(0, 1, 1);
        x.castle(2, 0, 0, 2, 5, 3);
        dueMove("Bf1xf6+", 0, 5, 35, 1, 1, 1, 1);
        dueMove("De5-e6=B+", 0, 28, 34, 3, NOTHING, 1, 1);
        dueMove("De5xf6=B+", 0, 28, 35, 3, 1, 1, 1);
        dueMove("Aa1-a2", 0, 0, 6, 0, NOTHING, 0, 0);
        dueMove("O2", 1, 0, 2, 0, NOTHING, 0, 0);
        dueMove("B@b1+", 2, NOTHING, 1, 1, NOTHING, 1, 1);
        dueMove("B@c1", 2, NOTHING, 2, 1, NOTHING, 1, 0);
        due("move -1", x.move(-1, 0), NONE);
        due("a move too many", x.move(x.moves(3), 0), NONE);
        due("the last move", x.move(x.moves(3) - 1, 0), 2);
        for (int v : ODD) {
            due("move " + v, x.move(v, 0), NONE);
            due("what " + v, x.move(0, v), NONE);
        }
        x.rule(1, 2);
        due("by rule 2 all are safe", x.move(x.moves(3) - 1, 6), 0);
        setup("a1a3/6/6/6/6/A2B2");
        x.rule(1, 1);
        dueMove("Bd1-c1", 0, 3, 2, 1, NOTHING, 1, 0);
        setup("a5/6/6/6/6/A2B2");
        x.rule(1, 1);
        due("uncovered", make("Aa1-b2"), 1);
    }

    private void promise14Proof() {
        promise = "14 proof";
        commonTypes();
        setup("b1b3/6/2c3/6/1D4/A1B3");
        due("an attack in the column", x.proof(0, 6), 24 - 0 + 6);
        due("legal", x.proof(2, 8), 30);
        setup("a5/6/6/6/1D4/A1B3");
        due("legal", x.proof(0, 6), NOTHING);
        due("a part does not go there", x.proof(0, 2), -7);
        due("an own man", x.proof(0, 7), -7);
        due("to itself", x.proof(0, 0), -7);
        due("empty", x.proof(1, 2), -6);
        due("a black man", x.proof(30, 31), -6);
        due("to 36", x.proof(0, 36), NONE);
        due("to -1", x.proof(0, -1), NONE);
        due("from 36", x.proof(36, 0), NONE);
        due("from -1", x.proof(-1, 0), NONE);
        due("from an empty square to none", x.proof(1, 36), NONE);
        for (int v : ODD) {
            due("from " + v, x.proof(v, 0), NONE);
            due("to " + v, x.proof(0, v), NONE);
        }
        setup("1b1b2/6/6/6/3b2/1A1B2");
        due("the lowest", x.proof(1, 2), NOTHING);
        due("the lowest", x.proof(3, 9), 31);
        due("two", x.proof(1, 7), 9);
        due("capturing leaves another", x.proof(3, 2), 31);
        x.type(1, 0, 1);
        due("two royal men", x.proof(1, 2), 9);
        x.rule(1, 1);
        due("not all attacked", x.proof(1, 2), NOTHING);
        x.rule(1, 2);
        due("always safe", x.proof(1, 7), NOTHING);
        x.type(1, 0, 0);
        x.rule(1, 0);
        setup("1a4/6/6/6/6/BB4");
        x.side(1);
        due("Black's, legal", x.proof(31, 32), NOTHING);
        due("Black's, by the lowest square of all", x.proof(31, 30), 0);
        due("Black's, by the next", x.proof(31, 25), 1);
        setup("1b1b2/6/6/6/3b2/1A1B2");
        x.proof(1, 7);
        due("the board is as it was", x.digest(), digestOf("1b1b2/6/6/6/3b2/1A1B2"));
    }

    private int digestOf(String position) {
        setup(position);
        return x.digest();
    }

    private void promise15Make() {
        promise = "15 make";
        commonTypes();
        setup("a5/6/6/6/6/5A");
        due("move -1", x.make(-1), NONE);
        due("a move too many", x.make(x.moves(3)), NONE);
        for (int v : ODD) {
            due("move " + v, x.make(v), NONE);
        }
        String[] round = {"Af1-e1", "aa6-b6", "Ae1-f1", "ab6-a6"};
        for (int n = 0; n < 40; n++) {
            int times = n / 4 + (n % 4 == 3 ? 2 : 1);
            due("make " + n, make(round[n % 4]), times);
            due("count(5)", x.count(5), times);
            due("count(4)", x.count(4), n + 1);
        }
        due("forty are made", x.make(0), FULL);
        due("NONE before FULL", x.make(99), NONE);
        due("back", x.back(), 39);
        due("once more", make("ab6-a6"), 11);
        due("sequences go on", x.sequences(2, 0), 9);
        setup("5D/6/6/6/6/6");
        due("no moves", x.moves(3), 0);
        setup("6/5D/6/6/6/6");
        due("promoting", make("Df5-f6=B"), 1);
        dueText("promoted", text(), "5B/6/6/6/6/6");
        due("Black to move", x.count(3), 1);
        x.type(3, 1, 3);
        setup("6/6/6/6/d5/6");
        x.side(1);
        dueText("to itself", all(), "da2-a1=d");
        due("it counts as a promotion", x.moves(5), 1);
        make("da2-a1=d");
        due("it stays", x.at(0), 9);
        x.type(3, 1, 5);
        setup("6/5D/6/6/6/6");
        due("to an undefined type", make("Df5-f6=F"), 1);
        due("it is there", x.at(35), 5);
        x.side(0);
        due("and does not move", x.moves(3), 0);
    }

    private void promise15Rights() {
        promise = "15 rights of castlings";
        String[] moves = {"Aa1-a2", "Bf1-f2", "Aa1-b1", "Bc3-a3", "Bc3-c1", "Bc3-c2"};
        int[] rights = {0, 0, 0, 1, 1, 1};
        for (int i = 0; i < moves.length; i++) {
            commonTypes();
            setup("6/6/6/2B3/6/A4B");
            x.castle(0, 0, 0, 2, 5, 3);
            due(moves[i], make(moves[i]), 1);
            due("rights after " + moves[i], x.count(7), rights[i]);
            due("castlings", x.count(6), 1);
            x.back();
            due("the right comes back", x.count(7), 1);
        }
        commonTypes();
        setup("5b/6/6/6/6/A5");
        x.castle(0, 0, 0, 2, 5, 3);
        x.castle(1, 1, 5, 3, 0, 2);
        x.castle(2, 1, 30, 31, 31, 30);
        x.side(1);
        make("bf6-f1+");
        due("men of either side", x.count(7), 1);
        commonTypes();
        x.rule(0, 1);
        setup("6/6/6/6/6/1A4");
        x.hand(0, 1, 1);
        x.castle(0, 0, 0, 2, 5, 3);
        make("B@f1");
        due("by a drop", x.count(7), 0);
        commonTypes();
        setup("6/6/6/6/6/A4B");
        x.castle(0, 0, 0, 2, 5, 3);
        x.castle(1, 0, 2, 4, 4, 2);
        x.castle(2, 0, 1, 4, 4, 2);
        x.castle(3, 1, 4, 4, 3, 1);
        make("O0");
        due("by another castling's s and q", x.count(7), 1);
        x.castle(0, 0, 2, 4, 3, 5);
        x.castle(1, 0, 0, 1, 1, 0);
        x.castle(2, 0, 2, 2, 1, 0);
        x.castle(3, 0, 0, 2, 3, 4);
        x.side(0);
        make("O0");
        due("by another castling's r and p", x.count(7), 1);
        x.back();
        setup("6/6/6/6/6/2AB2");
        dueText("the castling", text(), "6/6/6/6/6/2AB2");
        commonTypes();
        setup("b5/6/6/6/6/B5");
        x.castle(0, 1, 30, 31, 31, 30);
        make("Ba1xa6");
        due("by a capture", x.count(7), 0);
    }

    private void promise15Hands() {
        promise = "15 hands";
        commonTypes();
        setup("6/6/2b3/6/6/2B3");
        make("Bc1xc4");
        due("without drops", x.count(21), 0);
        x.rule(0, 1);
        setup("6/6/2b3/6/6/2B3");
        make("Bc1xc4");
        due("with drops", x.count(21), 1);
        due("Black's hand", x.count(27), 0);
        x.back();
        due("taken back", x.count(21), 0);
        x.hand(0, 1, 9);
        make("Bc1xc4");
        due("at most nine", x.count(21), 9);
        x.back();
        due("nine as before", x.count(21), 9);
        due("the man is back", x.at(20), 7);
        x.type(1, 1, 2);
        setup("2d3/6/6/6/6/2B3");
        make("Bc1xc6=C");
        due("as the type that it is", x.count(23), 1);
        due("promoted by capturing", x.at(32), 2);
        setup("6/6/6/6/1B4/d5");
        x.side(1);
        due("no way", x.moves(3), 0);
        setup("6/6/6/6/1d4/B5");
        x.side(1);
        make("db2xa1=b");
        due("Black's hand", x.count(27), 1);
        make("x");
        x.side(0);
        setup("6/6/6/6/6/b2B2");
        make("Bd1xa1");
        due("a promoted man is of its type", x.count(21), 1);
    }

    private void promise16Back() {
        promise = "16 back";
        due("none is made", x.back(), STATE);
        commonTypes();
        x.rule(0, 1);
        setup("a2b2/4D1/6/6/6/A4B");
        x.hand(0, 2, 2);
        x.castle(0, 0, 0, 2, 5, 3);
        int start = x.digest();
        int moves = x.moves(3);
        for (int move = 0; move < moves; move++) {
            String text = text();
            x.make(move);
            if (x.moves(3) > 0) {
                x.make(x.moves(3) / 2);
                due("one is left", x.back(), 1);
            }
            due("none is left", x.back(), 0);
            due("the digest", x.digest(), start);
            dueText("the text", text(), text);
            due("the moves", x.moves(3), moves);
        }
        due("no further", x.back(), STATE);
    }

    private void promise17Attackers() {
        promise = "17 attackers";
        commonTypes();
        define(4, "mhW0chW0");
        setup("e1b3/6/1c4/6/A1B2E/2E3");
        due("by a rook", x.attackers(20, 1), set(32));
        due("an own man is attacked, too", x.attackers(6, 0), set(8, 11));
        due("empty", x.attackers(26, 1), set(32));
        due("by a knight", x.attackers(6, 1), set(19));
        due("by two", x.attackers(8, 1), set(19, 32));
        due("not without a man to hop over", x.attackers(9, 0), set(8));
        due("by a hopper", x.attackers(14, 0), set(2, 8));
        due("none", x.attackers(35, 0), 0);
        setup("6/6/6/6/1D4/6");
        due("a pawn takes there", x.attackers(14, 0), set(7));
        due("a pawn only moves there", x.attackers(13, 0), 0);
        due("not behind", x.attackers(0, 0), 0);
        due("square 36", x.attackers(36, 0), NO);
        due("square -1", x.attackers(-1, 0), NO);
        due("side 2", x.attackers(0, 2), NO);
        due("side -1", x.attackers(0, -1), NO);
        for (int v : ODD) {
            due("square " + v, x.attackers(v, 0), NO);
            due("side " + v, x.attackers(0, v), NO);
        }
    }

    private void promise18Attacked() {
        promise = "18 attacked";
        commonTypes();
        setup("a5/6/6/6/1D4/B5");
        due("White's", x.attacked(0), set(1, 2, 3, 4, 5, 6, 12, 18, 24, 30, 14));
        due("Black's", x.attacked(1), set(24, 25, 31));
        due("side 2", x.attacked(2), NO);
        due("side -1", x.attacked(-1), NO);
        for (int v : ODD) {
            due("side " + v, x.attacked(v), NO);
        }
        for (int side = 0; side < 2; side++) {
            long set = 0;
            for (int square = 0; square < 36; square++) {
                set |= x.attackers(square, side) != 0 ? 1L << square : 0;
            }
            due("the same in two ways", x.attacked(side), set);
        }
        x.size(2, 2);
        due("nothing", x.attacked(0), 0);
    }

    private void promise19Status() {
        promise = "19 status";
        x.size(3, 3);
        define(0, "W");
        define(1, "W0");
        x.type(0, 0, 1);
        due("nobody moves", x.status(), 2);
        setup("b1b/3/A2");
        due("it can go", x.status(), 0);
        setup("bb1/3/A2");
        due("not safe", x.status(), 1);
        setup("1b1/2b/A2");
        due("safe, without a move", x.status(), 2);
        x.rule(1, 2);
        due("by rule 2 it moves", x.status(), 0);
    }

    private void promise20Sequences() {
        promise = "20 sequences";
        commonTypes();
        x.rule(0, 1);
        setup("a2b2/4D1/6/6/6/A4B");
        x.hand(0, 2, 1);
        x.hand(1, 1, 1);
        x.castle(0, 0, 0, 2, 5, 3);
        int copied = x.sequences(2, 1);
        int pairs = 0;
        int all = x.moves(3);
        int digest = x.digest();
        for (int move = 0; move < all; move++) {
            x.make(move);
            pairs += x.moves(3);
            x.back();
        }
        due("two, in copies first", copied, pairs);
        for (int way = 0; way < 2; way++) {
            due("none", x.sequences(0, way), 1);
            due("one", x.sequences(1, way), all);
            due("two", x.sequences(2, way), pairs);
            due("depth 3", x.sequences(3, way), BAD);
            due("depth -1", x.sequences(-1, way), BAD);
        }
        due("way 2", x.sequences(1, 2), NONE);
        due("way -1", x.sequences(1, -1), NONE);
        due("BAD before NONE", x.sequences(3, 2), BAD);
        due("a wrong way with depth 0", x.sequences(0, 2), NONE);
        due("the state stays", x.digest(), digest);
        due("no move is made", x.count(4), 0);
        define(0, "W");
        x.size(2, 2);
        setup("2/A1");
        due("one", x.sequences(1, 0), 2);
        due("two, while Black has no men", x.sequences(2, 1), 0);
    }

    private void promise21Text() {
        promise = "21 text";
        commonTypes();
        dueText("empty", text(), "6/6/6/6/6/6");
        setup("abcd11/1111ab/1A1B1C/DDDDDD/111111/2A12");
        dueText("with the greatest digits", text(), "abcd2/4ab/1A1B1C/DDDDDD/6/2A3");
        due("the length", x.text(-1), 29);
        due("the last", x.text(28), '3');
        due("behind it", x.text(29), NONE);
        due("-2", x.text(-2), NONE);
        for (int v : ODD) {
            due("text " + v, x.text(v), NONE);
        }
        setup(text());
        dueText("read again", text(), "abcd2/4ab/1A1B1C/DDDDDD/6/2A3");
    }

    private void promise22Told() {
        promise = "22 told";
        commonTypes();
        setup("1a4/3D2/6/6/6/A4B");
        x.castle(3, 0, 0, 2, 5, 1);
        dueText("the moves", all(), "Aa1-b1 Aa1-a2 Aa1-b2 Bf1-b1+ Bf1-c1 Bf1-d1 Bf1-e1 Bf1-f2 Bf1-f3 Bf1-f4 Bf1-f5 "
                + "Bf1-f6+ Dd5-d6=B+ O3+");
        int last = x.moves(3) - 1;
        due("the length", x.told(last, -1), 3);
        due("the last sign", x.told(last, 2), '+');
        due("behind it", x.told(last, 3), NONE);
        due("-2", x.told(last, -2), NONE);
        due("no such move", x.told(last + 1, 0), NONE);
        due("no such move", x.told(-1, -1), NONE);
        for (int v : ODD) {
            due("move " + v, x.told(v, 0), NONE);
            due("sign " + v, x.told(0, v), NONE);
        }
        x.rule(1, 2);
        dueText("by rule 2", told(last), "O3");
        x.rule(1, 0);
        x.rule(0, 1);
        setup("6/6/6/6/2d3/1B4");
        x.side(1);
        x.hand(1, 2, 1);
        dueText("Black's", told(0), "dc2xb1=b");
        dueText("Black's", told(1), "dc2-c1=b");
        dueText("Black's drop", told(2), "c@a1");
    }

    private void promise23Property() {
        promise = "23 property";
        x.size(6, 6);
        String[] texts = {"K", "K0", "mfWcfF", "hW0", "WWcF", "fbsN3"};
        int[][] due = {{1, 8, 8}, {1, 8, 19}, {2, 3, 1}, {1, 4, 0}, {3, 12, 4}, {1, 8, 8}};
        for (int type = 0; type < 6; type++) {
            define(type, texts[type]);
        }
        for (int type = 0; type < 6; type++) {
            due("parts of " + texts[type], x.property(type, 0), due[type][0]);
            due("directions of " + texts[type], x.property(type, 1), due[type][1]);
            due("most moves of " + texts[type], x.property(type, 5), due[type][2]);
        }
        x.type(4, 0, 1);
        x.type(4, 1, 2);
        due("royal", x.property(4, 2), 1);
        due("promotion", x.property(4, 3), 2);
        due("no promotion", x.property(3, 3), -1);
        setup("e1e3/6/6/6/6/E1D3");
        due("men of both sides", x.property(4, 4), 3);
        due("one man", x.property(3, 4), 1);
        due("no man", x.property(2, 4), 0);
        due("type 6", x.property(6, 0), NONE);
        due("type -1", x.property(-1, 0), NONE);
        due("what 6", x.property(0, 6), NONE);
        due("what -1", x.property(0, -1), NONE);
        for (int v : ODD) {
            due("type " + v, x.property(v, 0), NONE);
            due("what " + v, x.property(0, v), NONE);
        }
        x.size(2, 3);
        due("on this size", x.property(1, 5), 5);
        due("on this size", x.property(0, 5), 5);
        due("the men stay", x.property(4, 4), 0);
    }

    private void promise24Digest() {
        promise = "24 digest";
        x.size(2, 2);
        define(1, "W");
        setup("b1/1B");
        x.hand(0, 0, 3);
        x.hand(1, 5, 7);
        x.side(1);
        x.castle(2, 0, 0, 0, 1, 1);
        int[] numbers = {0, 2, 8, 0, 3, 0, 0, 0, 0, 0, 0, 0, 0, 0, 0, 7, 1, 0, 0, 1, 0};
        int d = 17;
        for (int v : numbers) {
            d = 31 * d + v;
        }
        due("digest", x.digest(), d);
    }

    private void promise25Image() {
        promise = "25 image";
        due("empty", x.image(), 0);
        commonTypes();
        setup("a5/6/6/6/6/A4B");
        due("three men", x.image(), 3);
        setup("a5/6/6/6/6/A5");
        due("in place of the earlier one", x.image(), 2);
        x.size(2, 2);
        due("undo", x.undo(), 2);
        define(0, "mW2");
        x.castle(2, 1, 30, 31, 32, 33);
        x.image();
        String all = all();
        define(0, "cF3");
        x.castle(2, 0, 30, 32, 33, 31);
        x.undo();
        dueText("parts", all(), all);
        setup("ad4/6/6/6/6/A5");
        x.side(1);
        due("the castling's side", x.moves(1), 0);
        define(0, "mW");
        setup("a1d3/6/6/6/6/A5");
        x.side(1);
        due("the castling's squares", castled(), 31);
        x.image();
        x.castle(2, 1, 30, 31, 33, 32);
        x.undo();
        due("the castling's squares again", castled(), 31);
        make("O2");
        x.image();
        x.back();
        make("aa6-b6");
        make("Aa1-b1");
        x.undo();
        due("the move", x.back(), 0);
        dueText("is taken back as it was made", text(), "a1d3/6/6/6/6/A5");
        due("with the right", x.count(7), 1);
        occurrencesInImage();
    }

    /** Where the first castling leads, or -1. */
    private int castled() {
        return x.moves(1) > 0 ? x.move(x.moves(0), 2) : -1;
    }

    private void occurrencesInImage() {
        commonTypes();
        setup("a5/6/6/6/6/5A");
        make("Af1-e1");
        make("aa6-b6");
        make("Ae1-f1");
        x.image();
        setup("a5/6/6/6/5A/6");
        make("Af2-f3");
        make("aa6-a5");
        make("Af3-f2");
        x.undo();
        due("the first position, too", make("ab6-a6"), 2);
        setup("a5/6/6/5b/6/5B");
        make("Bf1xf3");
        x.image();
        x.back();
        due("another move", make("Bf1-e1"), 1);
        x.undo();
        due("the move that was made", x.back(), 0);
        dueText("gives the captured man back", text(), "a5/6/6/5b/6/5B");
        setup("a5/6/6/6/6/5A");
        make("Af1-e1");
        make("aa6-b6");
        make("Ae1-f1");
        x.image();
        setup("a5/6/6/6/6/5A");
        make("Af1-f2");
        make("aa6-a5");
        make("Af2-f1");
        x.undo();
        due("what has occurred", make("ab6-a6"), 2);
    }

    private void promise26Undo() {
        promise = "26 undo";
        due("no snapshot", x.undo(), STATE);
        commonTypes();
        x.rule(0, 1);
        x.rule(1, 1);
        setup("a5/6/6/6/6/A4B");
        x.hand(0, 2, 5);
        x.castle(1, 0, 0, 2, 5, 3);
        make("Aa1-b1");
        make("aa6-b6");
        int digest = x.digest();
        String all = all();
        due("image", x.image(), 3);
        x.back();
        make("aa6-a5");
        x.back();
        x.back();
        x.size(3, 3);
        define(0, "F");
        define(5, "F");
        x.type(0, 0, 0);
        x.type(3, 1, 4);
        x.rule(0, 0);
        x.rule(1, 2);
        x.castle(0, 1, 0, 1, 1, 0);
        feed("xyz");
        for (int n = 0; n < 2; n++) {
            x.moves(3);
            due("undo", x.undo(), 3);
            due("digest", x.digest(), digest);
            dueText("moves", all(), all);
            int[] counts = {3, 6, 6, 0, 2, 1, 1, 0, 3, 1, 1};
            for (int what = 0; what < counts.length; what++) {
                due("count " + what, x.count(what), counts[what]);
            }
            due("type 5", x.property(5, 0), NOTHING);
            due("type 0", x.property(0, 1), 8);
            due("promotion", x.property(3, 3), 1);
            due("back", x.back(), 1);
            due("back", x.back(), 0);
            due("the right", x.count(7), 1);
            due("no further", x.back(), STATE);
            x.hand(0, 2, 6);
        }
    }

    private void promise27Count() {
        promise = "27 count";
        commonTypes();
        x.size(4, 3);
        x.rule(0, 1);
        x.rule(1, 2);
        setup("a3/4/A2B");
        x.castle(0, 0, 0, 1, 3, 2);
        x.castle(1, 1, 8, 8, 9, 9);
        for (int side = 0; side < 2; side++) {
            for (int type = 0; type < 6; type++) {
                x.hand(side, type, side + type);
            }
        }
        make("Aa1-a2");
        feed("abc");
        int[] counts = {3, 4, 3, 1, 1, 1, 2, 1, 3, 1, 2};
        for (int what = 0; what < counts.length; what++) {
            due("count " + what, x.count(what), counts[what]);
        }
        for (int what = 20; what < 32; what++) {
            due("count " + what, x.count(what), (what - 20) / 6 + (what - 20) % 6);
        }
        for (int what : new int[] {-1, 11, 12, 19, 32, Integer.MIN_VALUE, Integer.MAX_VALUE}) {
            due("count " + what, x.count(what), NONE);
        }
    }

    /** A new game with each call that sets something, and none with a call that returns an error code. */
    private void games() {
        promise = "games";
        for (int call = 0; call < 16; call++) {
            x = new VariantBoard();
            commonTypes();
            setup("a5/6/6/6/6/5A");
            make("Af1-e1");
            feed(call == 1 ? "W" : call == 9 ? "Wx" : call == 4 ? "6/6/6/6/6/6" : call == 12 ? "6/6/6/6/6/5" : "");
            due("call " + call, Math.max(-1, change(call)) < 0 ? 1 : 0, call < 8 && call != 2 ? 0 : 1);
            due("moves made after call " + call, x.count(4), call < 8 ? 0 : 1);
            due("occurred after call " + call, x.count(5), 1);
            due("back after call " + call, x.back(), call < 8 ? STATE : 0);
        }
        repetitions();
    }

    private int change(int call) {
        switch (call) {
            case 0: return x.size(6, 6);
            case 1: return x.define(5);
            case 2: return x.type(5, 1, 1);
            case 3: return x.rule(0, 1);
            case 4: return x.setup();
            case 5: return x.side(1);
            case 6: return x.hand(0, 0, 1);
            case 7: return x.castle(0, 0, 0, 1, 2, 3);
            case 8: return x.size(7, 6);
            case 9: return x.define(5);
            case 10: return x.type(5, 1, 7);
            case 11: return x.rule(0, 2);
            case 12: return x.setup();
            case 13: return x.side(2);
            case 14: return x.hand(0, 0, 10);
            default: return x.castle(0, 0, 0, 1, 0, 3);
        }
    }

    private void repetitions() {
        x = new VariantBoard();
        commonTypes();
        setup("a5/6/6/6/6/5A");
        make("Af1-e1");
        x.back();
        due("what was taken back does not count", make("Af1-e1"), 1);
        make("aa6-b6");
        make("Ae1-f1");
        due("the first position counts", make("ab6-a6"), 2);
        due("before a new game", x.count(5), 2);
        x.side(0);
        due("in a new game", x.count(5), 1);
        due("another one", make("Af1-e1"), 1);
    }
}
