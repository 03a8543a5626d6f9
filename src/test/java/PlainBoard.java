import java.util.ArrayList;
import java.util.List;
import java.util.Set;
import java.util.TreeSet;
import java.util.regex.Matcher;
import java.util.regex.Pattern;

/**
 * The document written down once more, in the slowest and plainest way and with the whole Java library,
 * so that random runs of calls can be answered twice. It shares no code with VariantBoard.
 */
final class PlainBoard {
    static final int NONE = -1, BAD = -2, STATE = -3, FULL = -4;
    static final long NO = Long.MIN_VALUE;

    private static final String MODS = "[mcfbsh]*", ATOM = "[WFDNACK]", PART = MODS + ATOM + "[02345]?";
    private static final String[][] WORDS = {
        {"king", "K"}, {"queen", "K0"}, {"rook", "W0"}, {"bishop", "F0"}, {"knight", "N"},
        {"pawn", "mfWcfF"}, {"cannon", "mW0chW0"}};

    /** A man of a side and a type. */
    record Man(int side, int type) {
        char letter() {
            return (char) ((side == 0 ? 'A' : 'a') + type);
        }
    }

    record Part(String mods, char atom, int most) {
        boolean moves() {
            return has('m') || !has('c');
        }

        boolean captures() {
            return has('c') || !has('m');
        }

        boolean has(char mod) {
            return mods.indexOf(mod) >= 0;
        }

        /** The directions, as texts so that none stands twice. */
        Set<String> directions(int side) {
            int[][] steps = switch (atom) {
                case 'W' -> new int[][] {{0, 1}};
                case 'F' -> new int[][] {{1, 1}};
                case 'D' -> new int[][] {{0, 2}};
                case 'N' -> new int[][] {{1, 2}};
                case 'A' -> new int[][] {{2, 2}};
                case 'C' -> new int[][] {{1, 3}};
                default -> new int[][] {{0, 1}, {1, 1}};
            };
            Set<String> all = new TreeSet<>();
            for (int[] step : steps) {
                for (int signs = 0; signs < 4; signs++) {
                    int a = (signs & 1) == 0 ? step[0] : -step[0];
                    int b = (signs & 2) == 0 ? step[1] : -step[1];
                    addAllowed(all, a, b, side);
                    addAllowed(all, b, a, side);
                }
            }
            return all;
        }

        private void addAllowed(Set<String> all, int dx, int dy, int side) {
            int ahead = side == 0 ? dy : -dy;
            boolean limited = has('f') || has('b') || has('s');
            if (!limited || has('f') && ahead > 0 || has('b') && ahead < 0 || has('s') && dy == 0) {
                all.add(dx + "," + dy);
            }
        }
    }

    static final class Castling {
        int side, r, s, p, q;
        boolean right = true;

        Castling copy() {
            Castling c = new Castling();
            c.side = side;
            c.r = r;
            c.s = s;
            c.p = p;
            c.q = q;
            c.right = right;
            return c;
        }
    }

    /** All of a position and of the rules. */
    static final class World {
        int columns = 5, rows = 5, turn, drops, royalRule;
        Man[] men = new Man[25];
        int[][] hands = new int[2][6];
        String[] texts = new String[6];
        boolean[] royal = new boolean[6];
        int[] promotion = {-1, -1, -1, -1, -1, -1};
        Castling[] castlings = new Castling[4];

        World copy() {
            World w = new World();
            w.columns = columns;
            w.rows = rows;
            w.turn = turn;
            w.drops = drops;
            w.royalRule = royalRule;
            w.men = men.clone();
            w.hands = new int[][] {hands[0].clone(), hands[1].clone()};
            w.texts = texts.clone();
            w.royal = royal.clone();
            w.promotion = promotion.clone();
            for (int i = 0; i < 4; i++) {
                w.castlings[i] = castlings[i] == null ? null : castlings[i].copy();
            }
            return w;
        }

        List<Part> parts(int type) {
            List<Part> parts = new ArrayList<>();
            if (texts[type] == null) {
                return parts;
            }
            Matcher m = Pattern.compile("(" + MODS + ")(" + ATOM + ")([02345]?)").matcher(texts[type]);
            while (m.find()) {
                String digit = m.group(3);
                int most = digit.isEmpty() ? 1 : digit.equals("0") ? 100 : Integer.parseInt(digit);
                parts.add(new Part(m.group(1), m.group(2).charAt(0), most));
            }
            return parts;
        }

        boolean onBoard(int x, int y) {
            return x >= 0 && x < columns && y >= 0 && y < rows;
        }

        /** Whether a part of a man that stands on a square reaches another one, whatever is there. */
        boolean reaches(int from, int side, Part part, int to) {
            for (String direction : part.directions(side)) {
                int dx = Integer.parseInt(direction.split(",")[0]);
                int dy = Integer.parseInt(direction.split(",")[1]);
                for (int n = 1; n <= Math.min(part.most(), 6); n++) {
                    int x = from % columns + n * dx, y = from / columns + n * dy;
                    if (!onBoard(x, y) || y * columns + x != to) {
                        continue;
                    }
                    int between = 0;
                    for (int k = 1; k < n; k++) {
                        if (men[(from / columns + k * dy) * columns + from % columns + k * dx] != null) {
                            between++;
                        }
                    }
                    if (between == (part.has('h') ? 1 : 0)) {
                        return true;
                    }
                }
            }
            return false;
        }

        boolean partGoes(int from, int to) {
            Man man = men[from];
            for (Part part : parts(man.type())) {
                boolean fits = men[to] == null ? part.moves() : men[to].side() != man.side() && part.captures();
                if (fits && reaches(from, man.side(), part, to)) {
                    return true;
                }
            }
            return false;
        }

        boolean attacks(int from, int to) {
            Man man = men[from];
            for (Part part : parts(man.type())) {
                if (part.captures() && reaches(from, man.side(), part, to)) {
                    return true;
                }
            }
            return false;
        }

        List<Integer> attackers(int square, int side) {
            List<Integer> found = new ArrayList<>();
            for (int from = 0; from < men.length; from++) {
                if (men[from] != null && men[from].side() == side && attacks(from, square)) {
                    found.add(from);
                }
            }
            return found;
        }

        boolean safe(int side) {
            if (royalRule == 2) {
                return true;
            }
            int royals = 0, hit = 0;
            for (int square = 0; square < men.length; square++) {
                if (men[square] != null && men[square].side() == side && royal[men[square].type()]) {
                    royals++;
                    hit += attackers(square, 1 - side).isEmpty() ? 0 : 1;
                }
            }
            return royalRule == 0 ? hit == 0 : royals == 0 || hit < royals;
        }

        int farRow(int side) {
            return side == 0 ? rows - 1 : 0;
        }

        int digest() {
            int d = 17;
            for (Man man : men) {
                d = 31 * d + (man == null ? 0 : 1 + man.type() + 6 * man.side());
            }
            for (int[] hand : hands) {
                for (int n : hand) {
                    d = 31 * d + n;
                }
            }
            d = 31 * d + turn;
            for (Castling c : castlings) {
                d = 31 * d + (c != null && c.right ? 1 : 0);
            }
            return d;
        }

        int menOnBoard() {
            int n = 0;
            for (Man man : men) {
                n += man == null ? 0 : 1;
            }
            return n;
        }

        void touch(int square) {
            for (Castling c : castlings) {
                if (c != null && (c.r == square || c.p == square)) {
                    c.right = false;
                }
            }
        }

        World afterMan(int from, int to) {
            World w = copy();
            Man man = men[from], victim = men[to];
            if (victim != null && drops == 1) {
                w.hands[turn][victim.type()] = Math.min(9, hands[turn][victim.type()] + 1);
            }
            if (promotion[man.type()] >= 0 && to / columns == farRow(man.side())) {
                man = new Man(man.side(), promotion[man.type()]);
            }
            w.men[from] = null;
            w.men[to] = man;
            w.touch(from);
            w.touch(to);
            w.turn = 1 - turn;
            return w;
        }

        World afterDrop(int type, int to) {
            World w = copy();
            w.men[to] = new Man(turn, type);
            w.hands[turn][type]--;
            w.touch(to);
            w.turn = 1 - turn;
            return w;
        }

        World afterCastling(Castling c) {
            World w = copy();
            w.men[c.r] = null;
            w.men[c.p] = null;
            w.men[c.s] = men[c.r];
            w.men[c.q] = men[c.p];
            for (int square : new int[] {c.r, c.s, c.p, c.q}) {
                w.touch(square);
            }
            w.turn = 1 - turn;
            return w;
        }

        boolean castlingPossible(Castling c) {
            if (c == null || !c.right || c.side != turn) {
                return false;
            }
            Man first = men[c.r], second = men[c.p];
            if (first == null || second == null || first.side() != turn || second.side() != turn
                    || !royal[first.type()]) {
                return false;
            }
            for (int square = Math.min(c.r, c.p) + 1; square < Math.max(c.r, c.p); square++) {
                if (men[square] != null) {
                    return false;
                }
            }
            for (int square : new int[] {c.s, c.q}) {
                if (men[square] != null && square != c.r && square != c.p) {
                    return false;
                }
            }
            for (int square = Math.min(c.r, c.s); square <= Math.max(c.r, c.s); square++) {
                if (!attackers(square, 1 - turn).isEmpty()) {
                    return false;
                }
            }
            return true;
        }

        List<Move> legal() {
            List<Move> all = new ArrayList<>();
            for (int from = 0; from < men.length; from++) {
                for (int to = 0; to < men.length; to++) {
                    if (men[from] != null && men[from].side() == turn && partGoes(from, to)) {
                        all.add(new Move(0, from, to, -1, afterMan(from, to)));
                    }
                }
            }
            for (int slot = 0; slot < 4; slot++) {
                Castling c = castlings[slot];
                if (castlingPossible(c)) {
                    all.add(new Move(1, c.r, c.s, slot, afterCastling(c)));
                }
            }
            for (int type = 0; type < 6 && drops == 1; type++) {
                for (int to = 0; to < men.length; to++) {
                    boolean far = promotion[type] >= 0 && to / columns == farRow(turn);
                    if (hands[turn][type] > 0 && men[to] == null && !far) {
                        all.add(new Move(2, -5, to, type, afterDrop(type, to)));
                    }
                }
            }
            all.removeIf(m -> !m.after().safe(turn));
            return all;
        }
    }

    record Move(int kind, int from, int to, int extra, World after) {
    }

    private World world = new World();
    private String tape = "";
    private List<World> earlier = new ArrayList<>();
    private List<Integer> digests = new ArrayList<>(List.of(world.digest()));
    private World imageWorld;
    private List<World> imageEarlier;
    private List<Integer> imageDigests;
    private List<Move> legal;

    private List<Move> legal() {
        if (legal == null) {
            legal = world.legal();
        }
        return legal;
    }

    private void begin() {
        earlier = new ArrayList<>();
        digests = new ArrayList<>(List.of(world.digest()));
        legal = null;
    }

    private static boolean in(int v, int low, int high) {
        return low <= v && v <= high;
    }

    private boolean square(int n) {
        return in(n, 0, world.men.length - 1);
    }

    int feed(int sign) {
        if (!in(sign, 0, 127)) {
            return BAD;
        }
        if (tape.length() == 60) {
            return FULL;
        }
        tape += (char) sign;
        return tape.length();
    }

    int size(int columns, int rows) {
        if (!in(columns, 2, 6) || !in(rows, 2, 6)) {
            return BAD;
        }
        world.columns = columns;
        world.rows = rows;
        world.men = new Man[columns * rows];
        world.hands = new int[2][6];
        world.castlings = new Castling[4];
        world.turn = 0;
        begin();
        return columns * rows;
    }

    private static boolean textContinues(String start) {
        for (String[] word : WORDS) {
            if (word[0].startsWith(start)) {
                return true;
            }
        }
        return start.matches("(" + PART + "){0,5}" + MODS) || start.matches("(" + PART + "){1,6}");
    }

    int define(int type) {
        if (!in(type, 0, 5)) {
            return NONE;
        }
        String text = tape;
        tape = "";
        for (int i = 0; i < text.length(); i++) {
            if (!textContinues(text.substring(0, i + 1))) {
                return -100 - i;
            }
        }
        String meaning = text;
        for (String[] word : WORDS) {
            if (word[0].equals(text)) {
                meaning = word[1];
            }
        }
        if (!meaning.matches("(" + PART + "){1,6}")) {
            return -100 - text.length();
        }
        world.texts[type] = meaning;
        begin();
        return world.parts(type).size();
    }

    int type(int type, int what, int v) {
        if (!in(type, 0, 5) || !in(what, 0, 1)) {
            return NONE;
        }
        if (what == 0 && !in(v, 0, 1) || what == 1 && !in(v, -1, 5)) {
            return BAD;
        }
        int before;
        if (what == 0) {
            before = world.royal[type] ? 1 : 0;
            world.royal[type] = v == 1;
        } else {
            before = world.promotion[type];
            world.promotion[type] = v;
        }
        begin();
        return before;
    }

    int rule(int what, int v) {
        if (!in(what, 0, 1)) {
            return NONE;
        }
        if (!in(v, 0, 1 + what)) {
            return BAD;
        }
        int before = what == 0 ? world.drops : world.royalRule;
        if (what == 0) {
            world.drops = v;
        } else {
            world.royalRule = v;
        }
        begin();
        return before;
    }

    private boolean positionContinues(String start) {
        String[] rows = start.split("/", -1);
        if (rows.length > world.rows) {
            return false;
        }
        for (int i = 0; i < rows.length; i++) {
            int width = 0;
            for (char c : rows[i].toCharArray()) {
                if (c >= '1' && c <= '6') {
                    width += c - '0';
                } else if ("ABCDEFabcdef".indexOf(c) >= 0 && world.texts[Character.toUpperCase(c) - 'A'] != null) {
                    width++;
                } else {
                    return false;
                }
            }
            if (width > world.columns || i < rows.length - 1 && width < world.columns) {
                return false;
            }
        }
        return true;
    }

    int setup() {
        String text = tape;
        tape = "";
        for (int i = 0; i < text.length(); i++) {
            if (!positionContinues(text.substring(0, i + 1))) {
                return -100 - i;
            }
        }
        StringBuilder flat = new StringBuilder();
        String[] rows = text.split("/", -1);
        for (int i = rows.length - 1; i >= 0; i--) {
            for (char c : rows[i].toCharArray()) {
                flat.append(Character.isDigit(c) ? ".".repeat(c - '0') : String.valueOf(c));
            }
        }
        if (flat.length() != world.men.length) {
            return -100 - text.length();
        }
        for (int i = 0; i < flat.length(); i++) {
            char c = flat.charAt(i);
            boolean white = Character.isUpperCase(c);
            world.men[i] = c == '.' ? null : new Man(white ? 0 : 1, Character.toUpperCase(c) - 'A');
        }
        world.hands = new int[2][6];
        world.turn = 0;
        for (Castling c : world.castlings) {
            if (c != null) {
                c.right = true;
            }
        }
        begin();
        return world.menOnBoard();
    }

    int side(int side) {
        if (!in(side, 0, 1)) {
            return BAD;
        }
        int before = world.turn;
        world.turn = side;
        begin();
        return before;
    }

    int hand(int side, int type, int n) {
        if (!in(side, 0, 1) || !in(type, 0, 5)) {
            return NONE;
        }
        if (!in(n, 0, 9)) {
            return BAD;
        }
        int before = world.hands[side][type];
        world.hands[side][type] = n;
        begin();
        return before;
    }

    int castle(int slot, int side, int r, int s, int p, int q) {
        if (!in(slot, 0, 3) || !in(side, 0, 1) || !square(r) || !square(s) || !square(p) || !square(q)) {
            return NONE;
        }
        Set<Integer> rows = new TreeSet<>();
        for (int square : new int[] {r, s, p, q}) {
            rows.add(square / world.columns);
        }
        if (rows.size() != 1 || r == p || s == q) {
            return BAD;
        }
        Castling c = new Castling();
        c.side = side;
        c.r = r;
        c.s = s;
        c.p = p;
        c.q = q;
        world.castlings[slot] = c;
        begin();
        return castlings(false);
    }

    private int castlings(boolean withRight) {
        int n = 0;
        for (Castling c : world.castlings) {
            n += c != null && (c.right || !withRight) ? 1 : 0;
        }
        return n;
    }

    int at(int square) {
        if (!square(square)) {
            return NONE;
        }
        Man man = world.men[square];
        return man == null ? -5 : man.type() + 6 * man.side();
    }

    private boolean captures(Move m) {
        return m.kind() == 0 && world.men[m.to()] != null;
    }

    private boolean promotes(Move m) {
        return m.kind() == 0 && world.promotion[world.men[m.from()].type()] >= 0
                && m.to() / world.columns == world.farRow(world.turn);
    }

    int moves(int kind) {
        if (!in(kind, 0, 5)) {
            return NONE;
        }
        int n = 0;
        for (Move m : legal()) {
            boolean counts = switch (kind) {
                case 3 -> true;
                case 4 -> captures(m);
                case 5 -> promotes(m);
                default -> m.kind() == kind;
            };
            n += counts ? 1 : 0;
        }
        return n;
    }

    int move(int move, int what) {
        if (!in(move, 0, legal().size() - 1)) {
            return NONE;
        }
        Move m = legal().get(move);
        int first = m.kind() == 2 ? m.extra() : world.men[m.from()].type();
        return switch (what) {
            case 0 -> m.kind();
            case 1 -> m.from();
            case 2 -> m.to();
            case 3 -> first;
            case 4 -> captures(m) ? world.men[m.to()].type() : -5;
            case 5 -> m.after().men[m.to()].type();
            case 6 -> m.after().safe(1 - world.turn) ? 0 : 1;
            case 7 -> m.after().digest();
            default -> NONE;
        };
    }

    int proof(int from, int to) {
        if (!square(from) || !square(to)) {
            return NONE;
        }
        if (world.men[from] == null || world.men[from].side() != world.turn) {
            return -6;
        }
        if (!world.partGoes(from, to)) {
            return -7;
        }
        World after = world.afterMan(from, to);
        if (after.safe(world.turn)) {
            return -5;
        }
        Set<Integer> checkers = new TreeSet<>();
        for (int square = 0; square < after.men.length; square++) {
            Man man = after.men[square];
            if (man != null && man.side() == world.turn && after.royal[man.type()]) {
                checkers.addAll(after.attackers(square, 1 - world.turn));
            }
        }
        return checkers.iterator().next();
    }

    int make(int move) {
        if (!in(move, 0, legal().size() - 1)) {
            return NONE;
        }
        if (earlier.size() == 40) {
            return FULL;
        }
        earlier.add(world);
        world = legal().get(move).after();
        digests.add(world.digest());
        legal = null;
        return count(5);
    }

    int back() {
        if (earlier.isEmpty()) {
            return STATE;
        }
        world = earlier.remove(earlier.size() - 1);
        digests.remove(digests.size() - 1);
        legal = null;
        return earlier.size();
    }

    long attackers(int square, int side) {
        if (!square(square) || !in(side, 0, 1)) {
            return NO;
        }
        long set = 0;
        for (int from : world.attackers(square, side)) {
            set |= 1L << from;
        }
        return set;
    }

    long attacked(int side) {
        if (!in(side, 0, 1)) {
            return NO;
        }
        long set = 0;
        for (int square = 0; square < world.men.length; square++) {
            if (!world.attackers(square, side).isEmpty()) {
                set |= 1L << square;
            }
        }
        return set;
    }

    int status() {
        return !legal().isEmpty() ? 0 : world.safe(world.turn) ? 2 : 1;
    }

    int sequences(int depth, int way) {
        if (!in(depth, 0, 2)) {
            return BAD;
        }
        if (!in(way, 0, 1)) {
            return NONE;
        }
        int n = 0;
        for (Move m : depth == 2 ? legal() : new ArrayList<Move>()) {
            n += m.after().legal().size();
        }
        return depth == 0 ? 1 : depth == 1 ? legal().size() : n;
    }

    private static int sign(String text, int i) {
        return i == -1 ? text.length() : in(i, 0, text.length() - 1) ? text.charAt(i) : NONE;
    }

    int text(int i) {
        StringBuilder all = new StringBuilder();
        for (int y = world.rows - 1; y >= 0; y--) {
            for (int x = 0; x < world.columns; x++) {
                Man man = world.men[y * world.columns + x];
                all.append(man == null ? '.' : man.letter());
            }
            all.append(y > 0 ? "/" : "");
        }
        String text = all.toString();
        for (int n = 6; n > 0; n--) {
            text = text.replace(".".repeat(n), String.valueOf(n));
        }
        return sign(text, i);
    }

    private String name(int square) {
        return "abcdef".charAt(square % world.columns) + String.valueOf(1 + square / world.columns);
    }

    int told(int move, int i) {
        if (!in(move, 0, legal().size() - 1)) {
            return NONE;
        }
        Move m = legal().get(move);
        char letter = m.kind() == 2 ? new Man(world.turn, m.extra()).letter() : world.men[m.from()].letter();
        String text = switch (m.kind()) {
            case 0 -> letter + name(m.from()) + (captures(m) ? "x" : "-") + name(m.to());
            case 1 -> "O" + m.extra();
            default -> letter + "@" + name(m.to());
        };
        text += promotes(m) ? "=" + m.after().men[m.to()].letter() : "";
        text += m.after().safe(1 - world.turn) ? "" : "+";
        return sign(text, i);
    }

    int property(int type, int what) {
        if (!in(type, 0, 5) || !in(what, 0, 5)) {
            return NONE;
        }
        List<Part> parts = world.parts(type);
        int n = 0;
        switch (what) {
            case 0:
                return world.texts[type] == null ? -5 : parts.size();
            case 1:
                for (Part part : parts) {
                    n += part.directions(0).size();
                }
                return n;
            case 2:
                return world.royal[type] ? 1 : 0;
            case 3:
                return world.promotion[type];
            case 4:
                for (Man man : world.men) {
                    n += man != null && man.type() == type ? 1 : 0;
                }
                return n;
            default:
                World alone = world.copy();
                alone.men = new Man[world.men.length];
                for (int from = 0; from < alone.men.length; from++) {
                    alone.men[from] = new Man(0, type);
                    int goes = 0;
                    for (int to = 0; to < alone.men.length; to++) {
                        goes += alone.partGoes(from, to) ? 1 : 0;
                    }
                    alone.men[from] = null;
                    n = Math.max(n, goes);
                }
                return n;
        }
    }

    int digest() {
        return world.digest();
    }

    private static List<World> copies(List<World> worlds) {
        List<World> copies = new ArrayList<>();
        for (World w : worlds) {
            copies.add(w.copy());
        }
        return copies;
    }

    int image() {
        imageWorld = world.copy();
        imageEarlier = copies(earlier);
        imageDigests = new ArrayList<>(digests);
        return world.menOnBoard();
    }

    int undo() {
        if (imageWorld == null) {
            return STATE;
        }
        world = imageWorld.copy();
        earlier = copies(imageEarlier);
        digests = new ArrayList<>(imageDigests);
        legal = null;
        return world.menOnBoard();
    }

    int count(int what) {
        if (in(what, 20, 31)) {
            return world.hands[(what - 20) / 6][(what - 20) % 6];
        }
        switch (what) {
            case 0: return world.menOnBoard();
            case 1: return world.columns;
            case 2: return world.rows;
            case 3: return world.turn;
            case 4: return earlier.size();
            case 5:
                int n = 0;
                for (int d : digests) {
                    n += d == world.digest() ? 1 : 0;
                }
                return n;
            case 6: return castlings(false);
            case 7: return castlings(true);
            case 8: return tape.length();
            case 9: return world.drops;
            case 10: return world.royalRule;
            default: return NONE;
        }
    }
}
