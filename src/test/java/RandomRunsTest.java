import java.util.ArrayList;
import java.util.List;
import java.util.Random;
import java.util.TreeMap;

/**
 * Random runs of up to 512 calls, answered by VariantBoard and by PlainBoard.
 * The seeds are fixed, so that a run that differs can be run again. Arguments: the number of runs, the first seed.
 */
public final class RandomRunsTest {
    private static final String[] GOOD = {
        "king", "queen", "rook", "bishop", "knight", "pawn", "cannon", "K", "W0", "F2", "N0", "D", "A", "C",
        "fFfcW", "mWcF", "hW0", "chK0", "mhF0cN", "sWbF", "fbN", "mK2cD0", "mmfsK3", "hN0", "hD0A", "cK", "mK",
        "fNbF", "bW0", "cfFmfW2", "hA0hC0", "sfW4", "WFDNAC"};
    private static final String[] SIGNS = {"mcfbsh", "WFDNACK", "02345", "16789/kqrbnpc", "kingqueenrookbishopcannon"};

    private final Random random;
    private final VariantBoard tried = new VariantBoard();
    private final PlainBoard plain = new PlainBoard();
    private final List<String> calls = new ArrayList<>();
    private int wrong;
    private static final TreeMap<String, Integer> SEEN = new TreeMap<>();

    private RandomRunsTest(long seed) {
        random = new Random(seed);
    }

    public static void main(String[] args) {
        int runs = args.length > 0 ? Integer.parseInt(args[0]) : 1500;
        long first = args.length > 1 ? Long.parseLong(args[1]) : 1;
        int wrong = 0;
        for (long seed = first; seed < first + runs && wrong < 5; seed++) {
            RandomRunsTest run = new RandomRunsTest(seed);
            run.run();
            if (run.wrong > 0) {
                wrong++;
                System.out.println("seed " + seed + ": " + String.join("; ", run.calls));
            }
        }
        if (args.length > 2) {
            System.out.println(SEEN);
        }
        System.out.println(wrong == 0 ? runs + " random runs are answered twice the same" : wrong + " runs differ");
        if (wrong != 0) {
            System.exit(1);
        }
    }

    private void run() {
        if (random.nextInt(8) > 0) {
            setUp();
        }
        while (calls.size() < 512 && wrong == 0) {
            int what = random.nextInt(100);
            if (what < 22) {
                play();
            } else if (what < 78) {
                ask();
            } else if (what < 82) {
                change();
            } else if (what < 84) {
                newPosition();
            } else if (what < 88) {
                call("feed", random.nextInt(30) == 0 ? odd() : sign());
            } else if (what < 90) {
                snapshot();
            } else if (what < 92 && calls.size() < 400) {
                shuffle();
            } else {
                strange();
            }
        }
    }

    private void setUp() {
        call("size", side(), side());
        for (int type = 0; type < 6; type++) {
            if (random.nextInt(10) > 0) {
                defineSome(type);
            }
        }
        for (int type = 0; type < 6; type++) {
            if (random.nextInt(type == 0 ? 8 : 3) > (type == 0 ? 0 : 1)) {
                call("type", type, 0, 1);
            }
            if (random.nextInt(3) == 0) {
                call("type", type, 1, random.nextInt(7) - 1);
            }
        }
        call("rule", 0, random.nextInt(2));
        call("rule", 1, random.nextInt(5) < 3 ? 0 : random.nextInt(3));
        newPosition();
        if (random.nextInt(2) == 0) {
            castlePosition();
        }
    }

    private int side() {
        return 2 + random.nextInt(5);
    }

    private void defineSome(int type) {
        emptyTape();
        feedText(random.nextInt(3) > 0 ? GOOD[random.nextInt(GOOD.length)] : randomText());
        call("define", type);
    }

    /** Nothing but a wrong text empties the tape without a new game; six calls of define are cheaper than any other way. */
    private void emptyTape() {
        if (plain.count(8) > 0) {
            call("define", random.nextInt(6));
        }
    }

    private String randomText() {
        StringBuilder text = new StringBuilder();
        int parts = 1 + random.nextInt(7);
        for (int i = 0; i < parts; i++) {
            for (int n = random.nextInt(3); n > 0; n--) {
                text.append(pick("mcfbsh"));
            }
            text.append(pick("WFDNACK"));
            if (random.nextInt(2) == 0) {
                text.append(pick("0002345"));
            }
        }
        if (random.nextInt(6) == 0) {
            text.setLength(random.nextInt(text.length() + 1));
        }
        if (random.nextInt(6) == 0) {
            text.insert(random.nextInt(text.length() + 1), pick(SIGNS[random.nextInt(SIGNS.length)]));
        }
        return text.toString();
    }

    private char pick(String signs) {
        return signs.charAt(random.nextInt(signs.length()));
    }

    private int sign() {
        return pick(SIGNS[random.nextInt(SIGNS.length)]);
    }

    private void feedText(String text) {
        for (int i = 0; i < text.length(); i++) {
            call("feed", text.charAt(i));
        }
    }

    private void newPosition() {
        emptyTape();
        int full = 1 + random.nextInt(8);
        StringBuilder text = new StringBuilder();
        for (int y = plain.count(2) - 1; y >= 0; y--) {
            for (int x = 0; x < plain.count(1); x++) {
                if (random.nextInt(10) < full) {
                    text.append(letter());
                } else {
                    text.append('1');
                }
            }
            text.append(y > 0 ? "/" : "");
        }
        String joined = text.toString();
        for (int n = 6; n > 1 && random.nextInt(4) > 0; n--) {
            joined = joined.replace("1".repeat(n), String.valueOf(n));
        }
        if (random.nextInt(12) == 0) {
            int at = random.nextInt(joined.length());
            joined = joined.substring(0, at) + pick("ABcd/16789xGg") + joined.substring(at + random.nextInt(2));
        }
        feedText(joined);
        call("setup");
        if (random.nextInt(3) == 0) {
            call("side", random.nextInt(2));
        }
        for (int n = random.nextInt(4); n > 0; n--) {
            call("hand", random.nextInt(2), random.nextInt(6), random.nextInt(10));
        }
    }

    private char letter() {
        for (int tries = 0; tries < 20; tries++) {
            int type = random.nextInt(6);
            if (plain.property(type, 0) > 0) {
                return (char) ((random.nextBoolean() ? 'A' : 'a') + type);
            }
        }
        return '1';
    }

    /** A row with a royal man and another one, so that castlings are often possible. */
    private void castlePosition() {
        emptyTape();
        int columns = plain.count(1), rows = plain.count(2);
        StringBuilder text = new StringBuilder();
        char[] row = ".".repeat(columns).toCharArray();
        row[random.nextInt(columns)] = 'A';
        row[random.nextInt(columns)] = letter();
        if (random.nextInt(3) == 0) {
            row[random.nextInt(columns)] = letter();
        }
        String own = new String(row).replace('.', '1');
        for (int y = rows - 1; y >= 1; y--) {
            text.append(y == rows - 1 ? own.toLowerCase() : String.valueOf(columns)).append('/');
        }
        feedText(text + own.toUpperCase());
        call("setup");
        for (int slot = 0; slot < 4; slot++) {
            int side = random.nextInt(2);
            int base = side == 0 ? 0 : (rows - 1) * columns;
            int king = indexOf(side == 0 ? 0 : 6, base, columns);
            int other = base + random.nextInt(columns);
            call("castle", slot, side, king, base + random.nextInt(columns), other, base + random.nextInt(columns));
        }
        if (random.nextBoolean()) {
            call("moves", 1);
            listMoves(5);
        }
    }

    private int indexOf(int man, int base, int columns) {
        for (int x = 0; x < columns; x++) {
            if (plain.at(base + x) == man) {
                return base + x;
            }
        }
        return base;
    }

    private void play() {
        int all = plain.moves(3);
        if (random.nextInt(6) == 0) {
            call("back");
        } else if (all > 0) {
            int castlings = plain.moves(1);
            boolean castling = castlings > 0 && random.nextInt(3) == 0;
            call("make", castling ? plain.moves(0) + random.nextInt(castlings) : random.nextInt(all));
        } else {
            call("status");
            call("make", 0);
            if (random.nextBoolean()) {
                call("back");
            } else {
                newPosition();
            }
        }
    }

    /** The same few moves to and fro, so that positions occur again and forty moves are made. */
    private void shuffle() {
        int n = 3 + random.nextInt(random.nextInt(4) == 0 ? 45 : 15);
        for (int i = 0; i < n && wrong == 0 && calls.size() < 512; i++) {
            int all = plain.moves(3);
            if (all == 0) {
                return;
            }
            int found = 0;
            for (int move = 0; move < all; move++) {
                if (plain.move(move, 4) == -5 && plain.move(move, 0) == 0 && random.nextInt(4) == 0) {
                    found = move;
                    break;
                }
            }
            call("make", found);
        }
    }

    private void listMoves(int most) {
        int all = plain.moves(3);
        for (int n = 0; n < most && all > 0; n++) {
            int move = random.nextInt(3) == 0 ? all - 1 - random.nextInt(Math.min(all, 4)) : random.nextInt(all);
            call("move", move, random.nextInt(8));
        }
    }

    private void ask() {
        int squares = plain.count(1) * plain.count(2);
        switch (random.nextInt(16)) {
            case 0 -> call("at", random.nextInt(squares));
            case 1 -> call("moves", random.nextInt(6));
            case 2, 3 -> listMoves(4);
            case 4, 5 -> askProof(squares);
            case 6 -> call("attackers", random.nextInt(squares), random.nextInt(2));
            case 7 -> call("attacked", random.nextInt(2));
            case 8 -> call("status");
            case 9 -> askSequences();
            case 10 -> call("text", random.nextInt(20) - 1);
            case 11, 12 -> askTold();
            case 13 -> call("property", random.nextInt(6), random.nextInt(6));
            case 14 -> call("digest");
            default -> call("count", random.nextBoolean() ? random.nextInt(12) : 19 + random.nextInt(14));
        }
    }

    private void askProof(int squares) {
        for (int n = 0; n < 3; n++) {
            int from = random.nextInt(squares);
            int to = random.nextInt(squares);
            for (int tries = 0; tries < 15 && plain.proof(from, to) < -5; tries++) {
                from = random.nextInt(squares);
                to = random.nextInt(squares);
            }
            call("proof", from, to);
        }
    }

    private void askSequences() {
        int depth = random.nextInt(8) == 0 ? 2 : random.nextInt(2);
        call("sequences", plain.moves(3) > 60 ? Math.min(depth, 1) : depth, random.nextInt(2));
    }

    private void askTold() {
        int all = plain.moves(3);
        if (all > 0) {
            int move = random.nextBoolean() ? random.nextInt(all) : all - 1;
            int length = plain.told(move, -1);
            for (int i = -1; i <= length; i++) {
                call("told", move, i);
            }
        }
    }

    private void change() {
        switch (random.nextInt(6)) {
            case 0 -> call("type", random.nextInt(6), 0, random.nextInt(2));
            case 1 -> call("type", random.nextInt(6), 1, random.nextInt(7) - 1);
            case 2 -> call("rule", 0, random.nextInt(2));
            case 3 -> call("rule", 1, random.nextInt(3));
            case 4 -> call("side", random.nextInt(2));
            default -> call("hand", random.nextInt(2), random.nextInt(6), random.nextInt(10));
        }
    }

    private void snapshot() {
        if (random.nextBoolean()) {
            call("image");
        } else {
            call("undo");
            call("digest");
            call("count", 4 + random.nextInt(2));
        }
    }

    private int odd() {
        int[] odd = {-1, -2, 128, 36, 6, 7, 25, 512, Integer.MAX_VALUE, Integer.MIN_VALUE, 1 << 16, 64, -5, 4, 2, 10};
        return odd[random.nextInt(odd.length)];
    }

    private int near(int most) {
        return random.nextInt(6) == 0 ? odd() : random.nextInt(most);
    }

    private void strange() {
        switch (random.nextInt(20)) {
            case 0 -> call("feed", near(130));
            case 1 -> call("define", near(7));
            case 2 -> call("type", near(7), near(3), near(8) - 1);
            case 3 -> call("rule", near(3), near(4));
            case 4 -> call("setup");
            case 5 -> call("side", near(3));
            case 6 -> call("hand", near(3), near(7), near(12));
            case 7 -> call("castle", near(5), near(3), near(37), near(37), near(37), near(37));
            case 8 -> call("at", near(40));
            case 9 -> call("moves", near(8));
            case 10 -> call("move", near(40), near(9));
            case 11 -> call("proof", near(40), near(40));
            case 12 -> call("make", near(40));
            case 13 -> call("attackers", near(40), near(3));
            case 14 -> call("attacked", near(3));
            case 15 -> call("sequences", random.nextBoolean() ? 3 : near(2), near(3));
            case 16 -> call("text", near(45));
            case 17 -> call("told", near(40), near(12));
            case 18 -> call("property", near(7), near(7));
            default -> call(random.nextInt(4) == 0 ? "size" : "count", near(34), near(7));
        }
    }

    /** Makes a call on both boards, if the object may still be used, and compares. */
    private void call(String name, int... a) {
        if (calls.size() >= 512 || wrong > 0) {
            return;
        }
        long got = answer(name, a);
        long due = due(name, a);
        StringBuilder told = new StringBuilder(name).append('(');
        for (int i = 0; i < a.length; i++) {
            told.append(i > 0 ? ", " : "").append(a[i]);
        }
        calls.add(told.append(") = ").append(got).toString());
        SEEN.merge(name + (due < 0 && due >= -7 ? String.valueOf(due) : due <= -100 ? "-1xx" : ""), 1, Integer::sum);
        if (got != due) {
            wrong++;
            calls.add("due is " + due);
        }
    }

    private long answer(String name, int[] a) {
        return switch (name) {
            case "feed" -> tried.feed(a[0]);
            case "size" -> tried.size(a[0], a[1]);
            case "define" -> tried.define(a[0]);
            case "type" -> tried.type(a[0], a[1], a[2]);
            case "rule" -> tried.rule(a[0], a[1]);
            case "setup" -> tried.setup();
            case "side" -> tried.side(a[0]);
            case "hand" -> tried.hand(a[0], a[1], a[2]);
            case "castle" -> tried.castle(a[0], a[1], a[2], a[3], a[4], a[5]);
            case "at" -> tried.at(a[0]);
            case "moves" -> tried.moves(a[0]);
            case "move" -> tried.move(a[0], a[1]);
            case "proof" -> tried.proof(a[0], a[1]);
            case "make" -> tried.make(a[0]);
            case "back" -> tried.back();
            case "attackers" -> tried.attackers(a[0], a[1]);
            case "attacked" -> tried.attacked(a[0]);
            case "status" -> tried.status();
            case "sequences" -> tried.sequences(a[0], a[1]);
            case "text" -> tried.text(a[0]);
            case "told" -> tried.told(a[0], a[1]);
            case "property" -> tried.property(a[0], a[1]);
            case "digest" -> tried.digest();
            case "image" -> tried.image();
            case "undo" -> tried.undo();
            default -> tried.count(a[0]);
        };
    }

    private long due(String name, int[] a) {
        return switch (name) {
            case "feed" -> plain.feed(a[0]);
            case "size" -> plain.size(a[0], a[1]);
            case "define" -> plain.define(a[0]);
            case "type" -> plain.type(a[0], a[1], a[2]);
            case "rule" -> plain.rule(a[0], a[1]);
            case "setup" -> plain.setup();
            case "side" -> plain.side(a[0]);
            case "hand" -> plain.hand(a[0], a[1], a[2]);
            case "castle" -> plain.castle(a[0], a[1], a[2], a[3], a[4], a[5]);
            case "at" -> plain.at(a[0]);
            case "moves" -> plain.moves(a[0]);
            case "move" -> plain.move(a[0], a[1]);
            case "proof" -> plain.proof(a[0], a[1]);
            case "make" -> plain.make(a[0]);
            case "back" -> plain.back();
            case "attackers" -> plain.attackers(a[0], a[1]);
            case "attacked" -> plain.attacked(a[0]);
            case "status" -> plain.status();
            case "sequences" -> plain.sequences(a[0], a[1]);
            case "text" -> plain.text(a[0]);
            case "told" -> plain.told(a[0], a[1]);
            case "property" -> plain.property(a[0], a[1]);
            case "digest" -> plain.digest();
            case "image" -> plain.image();
            case "undo" -> plain.undo();
            default -> plain.count(a[0]);
        };
    }
}
