/** A board for chess variants. What each call answers stands in the document, promise by promise. */
public final class VariantBoard {
    public static final int NONE = -1, BAD = -2, STATE = -3, FULL = -4;
    public static final long NO = Long.MIN_VALUE;

    private static final int TYPES = 6, PARTS = 6, SLOTS = 4, SQUARES = 36;
    private static final int SMALLEST = 2, GREATEST = 6, FIRST_SIZE = 5;
    private static final int MOST_SIGNS = 60, MOST_MADE = 40, MOST_IN_HAND = 9;
    private static final int MAN = 0, CASTLING = 1, DROP = 2;
    private static final int NOTHING = -5, NO_MAN = -6, NO_PART = -7, WRONG = -100;

    private static final int FIRST_FROM = 0, FIRST_TO = 1, SECOND_FROM = 2, SECOND_TO = 3;
    private static final int MOVE = 1, CAPTURE = 2, FORWARD = 4, BACKWARD = 8, SIDEWAYS = 16, HOP = 32;

    // The steps of the atoms W, F, D, N, A and C one behind the other; those of K are W's and F's.
    private static final int[] STEP_X = {
        0, 0, 1, -1, 1, 1, -1, -1, 0, 0, 2, -2, 1, 1, -1, -1, 2, 2, -2, -2,
        2, 2, -2, -2, 1, 1, -1, -1, 3, 3, -3, -3};
    private static final int[] STEP_Y = {
        1, -1, 0, 0, 1, -1, 1, -1, 2, -2, 0, 0, 2, -2, 2, -2, 1, -1, 1, -1,
        2, -2, 2, -2, 3, -3, 3, -3, 1, -1, 1, -1};
    private static final int[] ATOM_START = {0, 4, 8, 12, 20, 24, 0};
    private static final int[] ATOM_END = {4, 8, 12, 20, 24, 32, 8};

    // n men have at most n * (36 - n) moves, and the drops are at most 6 * (36 - n): at most 441 for n = 15.
    private static final int MOST_MOVES = 441 + SLOTS;

    private final Line tape = new Line();
    private final Line line = new Line();
    private final Laws laws = new Laws();
    private final Play play = new Play(laws);
    private final PartReader reader = new PartReader();
    private final Position position = new Position();
    private final Position spare = new Position();
    private final Trail trail = new Trail();
    private final MoveList legal = new MoveList();
    private final Counter counter = new Counter(play);
    private final Snapshot snapshot = new Snapshot();
    private boolean listed;

    public VariantBoard() {
        begin();
    }

    public int feed(int sign) {
        if (sign < 0 || sign > 127) {
            return BAD;
        }
        return tape.add(sign) ? tape.length : FULL;
    }

    public int size(int columns, int rows) {
        if (!isLength(columns) || !isLength(rows)) {
            return BAD;
        }
        position.empty(columns, rows);
        laws.removeCastlings();
        begin();
        return position.squares();
    }

    public int define(int type) {
        if (!isType(type)) {
            return NONE;
        }
        int wrong = reader.read(tape);
        tape.length = 0;
        if (wrong >= 0) {
            return WRONG - wrong;
        }
        laws.setParts(type, reader);
        begin();
        return laws.partsOf(type);
    }

    public int type(int type, int what, int v) {
        if (!isType(type) || what < 0 || what > 1) {
            return NONE;
        }
        if (what == 0 ? !isBit(v) : v != -1 && !isType(v)) {
            return BAD;
        }
        int[] values = what == 0 ? laws.royals : laws.promotions;
        int before = cell(values, type);
        setCell(values, type, v);
        begin();
        return before;
    }

    public int rule(int what, int v) {
        if (what < 0 || what > 1) {
            return NONE;
        }
        if (v < 0 || v > (what == 0 ? 1 : 2)) {
            return BAD;
        }
        int before = what == 0 ? laws.drops : laws.royalRule;
        if (what == 0) {
            laws.drops = v;
        } else {
            laws.royalRule = v;
        }
        begin();
        return before;
    }

    public int setup() {
        spare.empty(position.columns, position.rows);
        int wrong = readPosition(spare);
        tape.length = 0;
        if (wrong >= 0) {
            return WRONG - wrong;
        }
        position.copyFrom(spare);
        position.rights = laws.castlings();
        begin();
        return position.menOnBoard();
    }

    public int side(int side) {
        if (!isBit(side)) {
            return BAD;
        }
        int before = position.turn;
        position.turn = side;
        begin();
        return before;
    }

    public int hand(int side, int type, int n) {
        if (!isBit(side) || !isType(type)) {
            return NONE;
        }
        if (n < 0 || n > MOST_IN_HAND) {
            return BAD;
        }
        int before = position.inHand(side, type);
        position.addToHand(side, type, n - before);
        begin();
        return before;
    }

    public int castle(int slot, int side, int r, int s, int p, int q) {
        if (slot < 0 || slot >= SLOTS || !isBit(side)
                || !isSquare(r) || !isSquare(s) || !isSquare(p) || !isSquare(q)) {
            return NONE;
        }
        int row = position.rowOf(r);
        if (row != position.rowOf(s) || row != position.rowOf(p) || row != position.rowOf(q)
                || r == p || s == q) {
            return BAD;
        }
        setCell(laws.castlingSides, slot, side);
        setCell(laws.castlingSquares, 4 * slot + FIRST_FROM, r);
        setCell(laws.castlingSquares, 4 * slot + FIRST_TO, s);
        setCell(laws.castlingSquares, 4 * slot + SECOND_FROM, p);
        setCell(laws.castlingSquares, 4 * slot + SECOND_TO, q);
        position.rights |= 1 << slot;
        begin();
        return Integer.bitCount(laws.castlings());
    }

    public int at(int square) {
        if (!isSquare(square)) {
            return NONE;
        }
        int man = position.manOn(square);
        return man == 0 ? NOTHING : man - 1;
    }

    public int moves(int kind) {
        if (kind < 0 || kind > 5) {
            return NONE;
        }
        listLegal();
        int n = 0;
        for (int i = 0; i < legal.length; i++) {
            if (isOfKind(legal.moveAt(i), kind)) {
                n++;
            }
        }
        return n;
    }

    public int move(int move, int what) {
        listLegal();
        int chosen = legal.moveAt(move);
        if (chosen < 0) {
            return NONE;
        }
        switch (what) {
            case 0: return kindOf(chosen);
            case 1: return fromSquare(chosen);
            case 2: return toSquare(chosen);
            case 3: return typeOf(play.goer(position, chosen));
            case 4: return capturedType(chosen);
            case 5: return typeOf(play.arrival(position, chosen));
            case 6: return givesCheck(chosen) ? 1 : 0;
            case 7: return digestAfter(chosen);
            default: return NONE;
        }
    }

    public int proof(int from, int to) {
        if (!isSquare(from) || !isSquare(to)) {
            return NONE;
        }
        int turn = position.turn;
        if (!has(position.menOf(turn), from)) {
            return NO_MAN;
        }
        if (!has(play.targets(position, from), to)) {
            return NO_PART;
        }
        int move = coded(MAN, from, to);
        int undo = play.apply(position, move);
        int found = play.isSafe(position, turn) ? NOTHING : play.lowestChecker(position, turn);
        play.retract(position, move, undo);
        return found;
    }

    public int make(int move) {
        listLegal();
        int chosen = legal.moveAt(move);
        if (chosen < 0) {
            return NONE;
        }
        if (trail.made >= MOST_MADE) {
            return FULL;
        }
        int undo = play.apply(position, chosen);
        trail.add(chosen, undo, position.digestNow());
        listed = false;
        return trail.occurrences();
    }

    public int back() {
        if (trail.made <= 0) {
            return STATE;
        }
        trail.made--;
        play.retract(position, cell(trail.moves, trail.made), cell(trail.undos, trail.made));
        listed = false;
        return trail.made;
    }

    public long attackers(int square, int side) {
        if (!isSquare(square) || !isBit(side)) {
            return NO;
        }
        return play.menAttacking(position, side, 1L << square);
    }

    public long attacked(int side) {
        return isBit(side) ? play.attackedBy(position, side) : NO;
    }

    public int status() {
        listLegal();
        if (legal.length > 0) {
            return 0;
        }
        return play.isSafe(position, position.turn) ? 2 : 1;
    }

    public int sequences(int depth, int way) {
        if (depth < 0 || depth > 2) {
            return BAD;
        }
        if (!isBit(way)) {
            return NONE;
        }
        if (depth == 0) {
            return 1;
        }
        if (way == 0) {
            return depth == 1 ? counter.movesMade(position) : counter.pairsMade(position);
        }
        return depth == 1 ? counter.movesCopied(position) : counter.pairsCopied(position);
    }

    public int text(int i) {
        line.length = 0;
        for (int y = position.rows - 1; y >= 0; y--) {
            writeRow(y);
            if (y > 0) {
                line.add('/');
            }
        }
        return line.answer(i);
    }

    public int told(int move, int i) {
        listLegal();
        int chosen = legal.moveAt(move);
        if (chosen < 0) {
            return NONE;
        }
        writeMove(chosen);
        return line.answer(i);
    }

    public int property(int type, int what) {
        if (!isType(type)) {
            return NONE;
        }
        switch (what) {
            case 0: return laws.partsOf(type) == 0 ? NOTHING : laws.partsOf(type);
            case 1: return laws.directionCount(type);
            case 2: return cell(laws.royals, type);
            case 3: return cell(laws.promotions, type);
            case 4: return position.menOfType(type);
            case 5: return mostMovesAlone(type);
            default: return NONE;
        }
    }

    public int digest() {
        return position.digestNow();
    }

    public int image() {
        snapshot.laws.copyFrom(laws);
        snapshot.position.copyFrom(position);
        snapshot.trail.copyFrom(trail);
        snapshot.taken = true;
        return position.menOnBoard();
    }

    public int undo() {
        if (!snapshot.taken) {
            return STATE;
        }
        laws.copyFrom(snapshot.laws);
        position.copyFrom(snapshot.position);
        trail.copyFrom(snapshot.trail);
        listed = false;
        return position.menOnBoard();
    }

    public int count(int what) {
        if (what >= 20 && what < 20 + 2 * TYPES) {
            return cell(position.hands, what - 20);
        }
        switch (what) {
            case 0: return position.menOnBoard();
            case 1: return position.columns;
            case 2: return position.rows;
            case 3: return position.turn;
            case 4: return trail.made;
            case 5: return trail.occurrences();
            case 6: return Integer.bitCount(laws.castlings());
            case 7: return Integer.bitCount(position.rights);
            case 8: return tape.length;
            case 9: return laws.drops;
            case 10: return laws.royalRule;
            default: return NONE;
        }
    }

    /** A game begins: what was made before can no longer be taken back. */
    private void begin() {
        trail.begin(position.digestNow());
        listed = false;
    }

    private boolean isSquare(int square) {
        return square >= 0 && square < position.squares();
    }

    /** Lists the legal moves once for all calls that ask for them before the state changes. */
    private void listLegal() {
        if (!listed) {
            play.listLegal(position, legal);
            listed = true;
        }
    }

    private boolean isOfKind(int move, int kind) {
        if (kind == 3) {
            return true;
        }
        if (kind == 4) {
            return play.captured(position, move) != 0;
        }
        return kind == 5 ? play.promotes(position, move) : kindOf(move) == kind;
    }

    private int fromSquare(int move) {
        switch (kindOf(move)) {
            case MAN: return firstOf(move);
            case CASTLING: return laws.castlingSquare(firstOf(move), FIRST_FROM);
            default: return NOTHING;
        }
    }

    private int toSquare(int move) {
        return kindOf(move) == CASTLING ? laws.castlingSquare(firstOf(move), FIRST_TO) : secondOf(move);
    }

    private int capturedType(int move) {
        int man = play.captured(position, move);
        return man == 0 ? NOTHING : typeOf(man);
    }

    private boolean givesCheck(int move) {
        int other = 1 - position.turn;
        int undo = play.apply(position, move);
        boolean safe = play.isSafe(position, other);
        play.retract(position, move, undo);
        return !safe;
    }

    private int digestAfter(int move) {
        int undo = play.apply(position, move);
        int digest = position.digestNow();
        play.retract(position, move, undo);
        return digest;
    }

    private int mostMovesAlone(int type) {
        spare.empty(position.columns, position.rows);
        int most = 0;
        for (int square = 0; square < spare.squares(); square++) {
            spare.put(square, manOf(0, type));
            most = Math.max(most, Long.bitCount(play.targets(spare, square)));
            spare.put(square, 0);
        }
        return most;
    }

    /** Reads the tape into an empty position; answers the index of what is wrong, or -1. */
    private int readPosition(Position into) {
        int x = 0;
        int y = into.rows - 1;
        for (int i = 0; i < tape.length; i++) {
            int sign = tape.signAt(i);
            if (sign == '/') {
                if (x != into.columns || y == 0) {
                    return i;
                }
                x = 0;
                y--;
            } else if (sign >= '1' && sign <= '6') {
                x += sign - '0';
            } else {
                int man = manOfLetter(sign);
                if (man == 0 || laws.partsOf(typeOf(man)) == 0 || x >= into.columns) {
                    return i;
                }
                into.put(y * into.columns + x, man);
                x++;
            }
            if (x > into.columns) {
                return i;
            }
        }
        return x == into.columns && y == 0 ? -1 : tape.length;
    }

    private void writeRow(int y) {
        int empty = 0;
        for (int x = 0; x < position.columns; x++) {
            int man = position.manOn(y * position.columns + x);
            if (man == 0) {
                empty++;
            } else {
                writeEmpty(empty);
                empty = 0;
                line.add(letterOf(man));
            }
        }
        writeEmpty(empty);
    }

    private void writeEmpty(int empty) {
        if (empty > 0) {
            line.add('0' + empty);
        }
    }

    private void writeMove(int move) {
        line.length = 0;
        if (kindOf(move) == CASTLING) {
            line.add('O');
            line.add('0' + firstOf(move));
        } else {
            line.add(letterOf(play.goer(position, move)));
            if (kindOf(move) == MAN) {
                writeSquare(firstOf(move));
                line.add(play.captured(position, move) != 0 ? 'x' : '-');
            } else {
                line.add('@');
            }
            writeSquare(secondOf(move));
        }
        if (play.promotes(position, move)) {
            line.add('=');
            line.add(letterOf(play.arrival(position, move)));
        }
        if (givesCheck(move)) {
            line.add('+');
        }
    }

    private void writeSquare(int square) {
        line.add('a' + position.columnOf(square));
        line.add('1' + position.rowOf(square));
    }

    private static boolean isLength(int n) {
        return n >= SMALLEST && n <= GREATEST;
    }

    private static boolean isType(int type) {
        return type >= 0 && type < TYPES;
    }

    private static boolean isBit(int v) {
        return v == 0 || v == 1;
    }

    private static boolean has(long set, int square) {
        return (set >>> square & 1L) != 0;
    }

    // A man is 1 plus its type plus 6 times its side, as in the digest, so that 0 is an empty square.

    private static int manOf(int side, int type) {
        return 1 + type + TYPES * side;
    }

    private static int typeOf(int man) {
        return man > TYPES ? man - 1 - TYPES : man - 1;
    }

    private static int sideOf(int man) {
        return man > TYPES ? 1 : 0;
    }

    private static int letterOf(int man) {
        return (sideOf(man) == 0 ? 'A' : 'a') + typeOf(man);
    }

    /** The man with a letter, or 0 if it is the letter of none. */
    private static int manOfLetter(int sign) {
        if (isType(sign - 'A')) {
            return manOf(0, sign - 'A');
        }
        return isType(sign - 'a') ? manOf(1, sign - 'a') : 0;
    }

    // A move is one number: its kind; the square from, the slot or the type; the square to.

    private static int coded(int kind, int first, int second) {
        return kind << 12 | first << 6 | second;
    }

    private static int kindOf(int move) {
        return move >> 12;
    }

    private static int firstOf(int move) {
        return move >> 6 & 63;
    }

    private static int secondOf(int move) {
        return move & 63;
    }

    private static int cell(int[] row, int i) {
        return i >= 0 && i < row.length ? row[i] : 0;
    }

    private static void setCell(int[] row, int i, int v) {
        if (i >= 0 && i < row.length) {
            row[i] = v;
        }
    }

    private static void copy(int[] from, int[] to) {
        for (int i = 0; i < from.length && i < to.length; i++) {
            to[i] = from[i];
        }
    }

    private static void fill(int[] row, int v) {
        for (int i = 0; i < row.length; i++) {
            row[i] = v;
        }
    }

    /** Signs one behind the other: the tape, or a text that is told sign by sign. */
    private static final class Line {
        final int[] signs = new int[MOST_SIGNS];
        int length;

        boolean add(int sign) {
            if (length < 0 || length >= signs.length) {
                return false;
            }
            signs[length] = sign;
            length++;
            return true;
        }

        int signAt(int i) {
            return i >= 0 && i < length && i < signs.length ? signs[i] : NONE;
        }

        int answer(int i) {
            return i == -1 ? length : signAt(i);
        }
    }

    /** Legal moves, or those that may turn out not to be safe. */
    private static final class MoveList {
        final int[] moves = new int[MOST_MOVES];
        int length;

        void add(int move) {
            if (length >= 0 && length < moves.length) {
                moves[length] = move;
                length++;
            }
        }

        /** The move with a number, or -1 if there is none. */
        int moveAt(int i) {
            return i >= 0 && i < length && i < moves.length ? moves[i] : -1;
        }
    }

    /** Reads a text of moves into parts, beside the types, so that a wrong text changes none. */
    private static final class PartReader {
        private static final String MODIFIERS = "mcfbsh";
        private static final String ATOMS = "WFDNACK";
        private static final int WORDS = 7;

        final int[] atoms = new int[PARTS];
        final int[] marks = new int[PARTS];
        final int[] reaches = new int[PARTS];
        int length;

        /** Answers the index of what is wrong, or -1; a word on the tape gives way to its meaning. */
        int read(Line tape) {
            int known = 0;
            for (int w = 0; w < WORDS; w++) {
                String word = wordOf(w);
                int same = sameSigns(tape, word);
                if (same == tape.length && same == word.length()) {
                    replace(tape, meaningOf(w));
                    return readParts(tape);
                }
                known = Math.max(known, same);
            }
            int wrong = readParts(tape);
            return wrong < 0 ? wrong : Math.max(wrong, known);
        }

        private int readParts(Line text) {
            length = 0;
            int mark = 0;
            boolean inPart = false;
            boolean digitFits = false;
            for (int i = 0; i < text.length; i++) {
                int sign = text.signAt(i);
                if (digitFits && (sign == '0' || sign >= '2' && sign <= '5')) {
                    setCell(reaches, length - 1, sign == '0' ? GREATEST - 1 : sign - '0');
                    digitFits = false;
                    continue;
                }
                if (!inPart && length >= PARTS) {
                    return i;
                }
                int modifier = MODIFIERS.indexOf((char) sign);
                int atom = ATOMS.indexOf((char) sign);
                if (modifier < 0 && atom < 0) {
                    return i;
                }
                if (modifier >= 0) {
                    mark |= 1 << modifier;
                } else {
                    addPart(atom, mark);
                    mark = 0;
                }
                inPart = modifier >= 0;
                digitFits = !inPart;
            }
            return inPart || length == 0 ? text.length : -1;
        }

        private void addPart(int atom, int mark) {
            setCell(atoms, length, atom);
            setCell(marks, length, (mark & (MOVE | CAPTURE)) == 0 ? mark | MOVE | CAPTURE : mark);
            setCell(reaches, length, 1);
            length++;
        }

        private static int sameSigns(Line tape, String word) {
            int n = 0;
            while (n < tape.length && n < word.length() && tape.signAt(n) == word.charAt(n)) {
                n++;
            }
            return n;
        }

        private static void replace(Line tape, String text) {
            tape.length = 0;
            for (int i = 0; i < text.length(); i++) {
                tape.add(text.charAt(i));
            }
        }

        private static String wordOf(int w) {
            switch (w) {
                case 0: return "king";
                case 1: return "queen";
                case 2: return "rook";
                case 3: return "bishop";
                case 4: return "knight";
                case 5: return "pawn";
                default: return "cannon";
            }
        }

        private static String meaningOf(int w) {
            switch (w) {
                case 0: return "K";
                case 1: return "K0";
                case 2: return "W0";
                case 3: return "F0";
                case 4: return "N";
                case 5: return "mfWcfF";
                default: return "mW0chW0";
            }
        }
    }

    /** What does not change by moves: the types, the rules and the castlings without their rights. */
    private static final class Laws {
        final int[] partCounts = new int[TYPES];
        final int[] atoms = new int[TYPES * PARTS];
        final int[] marks = new int[TYPES * PARTS];
        final int[] reaches = new int[TYPES * PARTS];
        final int[] directions = new int[TYPES * PARTS];
        final int[] royals = new int[TYPES];
        final int[] promotions = new int[TYPES];
        final int[] castlingSides = new int[SLOTS];
        final int[] castlingSquares = new int[4 * SLOTS];
        int drops;
        int royalRule;

        Laws() {
            fill(promotions, -1);
            fill(castlingSides, -1);
        }

        void copyFrom(Laws other) {
            copy(other.partCounts, partCounts);
            copy(other.atoms, atoms);
            copy(other.marks, marks);
            copy(other.reaches, reaches);
            copy(other.directions, directions);
            copy(other.royals, royals);
            copy(other.promotions, promotions);
            copy(other.castlingSides, castlingSides);
            copy(other.castlingSquares, castlingSquares);
            drops = other.drops;
            royalRule = other.royalRule;
        }

        void setParts(int type, PartReader read) {
            setCell(partCounts, type, read.length);
            for (int i = 0; i < read.length && i < PARTS; i++) {
                int part = type * PARTS + i;
                int atom = cell(read.atoms, i);
                int mark = cell(read.marks, i);
                setCell(atoms, part, atom);
                setCell(marks, part, mark);
                setCell(reaches, part, cell(read.reaches, i));
                setCell(directions, part, directionsOf(atom, mark));
            }
        }

        /** The steps that White's men may take, bit n for the step n; Black's are these with the rows turned. */
        private static int directionsOf(int atom, int mark) {
            int directions = 0;
            for (int step = cell(ATOM_START, atom); step < cell(ATOM_END, atom); step++) {
                int y = cell(STEP_Y, step);
                int needed = y > 0 ? FORWARD : y < 0 ? BACKWARD : SIDEWAYS;
                if ((mark & needed) != 0 || (mark & (FORWARD | BACKWARD | SIDEWAYS)) == 0) {
                    directions |= 1 << step;
                }
            }
            return directions;
        }

        int partsOf(int type) {
            return cell(partCounts, type);
        }

        int directionCount(int type) {
            int n = 0;
            for (int i = 0; i < partsOf(type); i++) {
                n += Integer.bitCount(cell(directions, type * PARTS + i));
            }
            return n;
        }

        boolean isRoyal(int type) {
            return cell(royals, type) != 0;
        }

        /** The type that a type promotes to, or -1. */
        int promotionOf(int type) {
            return isType(type) ? cell(promotions, type) : -1;
        }

        /** The slots that have a castling, bit n for the slot n. */
        int castlings() {
            int slots = 0;
            for (int slot = 0; slot < castlingSides.length; slot++) {
                if (castlingSides[slot] >= 0) {
                    slots |= 1 << slot;
                }
            }
            return slots;
        }

        /** A square of a castling: which is FIRST_FROM, FIRST_TO, SECOND_FROM or SECOND_TO. */
        int castlingSquare(int slot, int which) {
            return cell(castlingSquares, 4 * slot + which);
        }

        void removeCastlings() {
            fill(castlingSides, -1);
        }
    }

    /** What moves change: the men, the hands, the side to move and the rights of castlings. */
    private static final class Position {
        final int[] men = new int[SQUARES];
        final int[] hands = new int[2 * TYPES];
        int columns = FIRST_SIZE;
        int rows = FIRST_SIZE;
        int turn;
        int rights;
        long white;
        long black;

        void copyFrom(Position other) {
            copy(other.men, men);
            copy(other.hands, hands);
            columns = other.columns;
            rows = other.rows;
            turn = other.turn;
            rights = other.rights;
            white = other.white;
            black = other.black;
        }

        void empty(int newColumns, int newRows) {
            fill(men, 0);
            fill(hands, 0);
            columns = newColumns;
            rows = newRows;
            turn = 0;
            rights = 0;
            white = 0;
            black = 0;
        }

        int squares() {
            return columns * rows;
        }

        int columnOf(int square) {
            return columns > 0 ? square % columns : 0;
        }

        int rowOf(int square) {
            return columns > 0 ? square / columns : 0;
        }

        boolean isFarRow(int side, int square) {
            return rowOf(square) == (side == 0 ? rows - 1 : 0);
        }

        int manOn(int square) {
            return square >= 0 && square < men.length ? men[square] : 0;
        }

        void put(int square, int man) {
            if (square < 0 || square >= men.length) {
                return;
            }
            men[square] = man;
            long bit = 1L << square;
            white &= ~bit;
            black &= ~bit;
            if (man > TYPES) {
                black |= bit;
            } else if (man > 0) {
                white |= bit;
            }
        }

        long menOf(int side) {
            return side == 0 ? white : black;
        }

        int menOnBoard() {
            return Long.bitCount(white | black);
        }

        int menOfType(int type) {
            int n = 0;
            for (int square = 0; square < men.length; square++) {
                if (men[square] != 0 && typeOf(men[square]) == type) {
                    n++;
                }
            }
            return n;
        }

        int inHand(int side, int type) {
            return cell(hands, side * TYPES + type);
        }

        void addToHand(int side, int type, int n) {
            int i = side * TYPES + type;
            setCell(hands, i, cell(hands, i) + n);
        }

        int digestNow() {
            int d = 17;
            for (int square = 0; square < squares(); square++) {
                d = 31 * d + manOn(square);
            }
            for (int i = 0; i < hands.length; i++) {
                d = 31 * d + hands[i];
            }
            d = 31 * d + turn;
            for (int slot = 0; slot < SLOTS; slot++) {
                d = 31 * d + (rights >> slot & 1);
            }
            return d;
        }
    }

    /** The moves made in this game, with what takes them back, and the digests of its positions. */
    private static final class Trail {
        final int[] moves = new int[MOST_MADE];
        final int[] undos = new int[MOST_MADE];
        final int[] digests = new int[MOST_MADE + 1];
        int made;

        void copyFrom(Trail other) {
            copy(other.moves, moves);
            copy(other.undos, undos);
            copy(other.digests, digests);
            made = other.made;
        }

        void begin(int digest) {
            made = 0;
            setCell(digests, 0, digest);
        }

        void add(int move, int undo, int digest) {
            setCell(moves, made, move);
            setCell(undos, made, undo);
            made++;
            setCell(digests, made, digest);
        }

        /** How often the latest position has occurred. */
        int occurrences() {
            int latest = cell(digests, made);
            int n = 0;
            for (int i = 0; i <= made && i < digests.length; i++) {
                if (digests[i] == latest) {
                    n++;
                }
            }
            return n;
        }
    }

    private static final class Snapshot {
        final Laws laws = new Laws();
        final Position position = new Position();
        final Trail trail = new Trail();
        boolean taken;
    }

    /** How men go and attack by the laws, in whatever position. */
    private static final class Play {
        // Attacked is also what no man of the other side stands on: attacks are captures with others everywhere.
        private static final long NOWHERE = 0L, EVERYWHERE = -1L;

        final Laws laws;

        Play(Laws laws) {
            this.laws = laws;
        }

        /** The squares to which the man on a square can go by its parts. */
        long targets(Position p, int square) {
            return ends(p, square, ~(p.white | p.black), p.menOf(1 - sideOf(p.manOn(square))));
        }

        /** Where the ways of a man's parts end: among the empty squares if they move, among others if they capture. */
        private long ends(Position p, int square, long empty, long others) {
            int man = p.manOn(square);
            int x = p.columnOf(square);
            int y = p.rowOf(square);
            int forward = sideOf(man) == 0 ? 1 : -1;
            int first = typeOf(man) * PARTS;
            int end = first + cell(laws.partCounts, typeOf(man));
            long ends = 0;
            for (int part = first; part < end; part++) {
                int mark = cell(laws.marks, part);
                long wanted = ((mark & MOVE) != 0 ? empty : 0L) | ((mark & CAPTURE) != 0 ? others : 0L);
                if (wanted == 0) {
                    continue;
                }
                int hops = (mark & HOP) != 0 ? 1 : 0;
                int reach = cell(laws.reaches, part);
                int directions = cell(laws.directions, part);
                int atom = cell(laws.atoms, part);
                int stepEnd = cell(ATOM_END, atom);
                for (int step = cell(ATOM_START, atom); step < stepEnd; step++) {
                    if ((directions >> step & 1) != 0) {
                        int dy = forward * cell(STEP_Y, step);
                        ends |= wanted & way(p, x, y, cell(STEP_X, step), dy, reach, hops);
                    }
                }
            }
            return ends;
        }

        /** The squares of a way with so many men before them as are to be hopped over. */
        private static long way(Position p, int fromX, int fromY, int dx, int dy, int reach, int hops) {
            long occupied = p.white | p.black;
            long way = 0;
            int over = 0;
            int x = fromX + dx;
            int y = fromY + dy;
            for (int n = 0; n < reach && x >= 0 && x < p.columns && y >= 0 && y < p.rows; n++) {
                long square = 1L << (y * p.columns + x);
                if (over == hops) {
                    way |= square;
                }
                if ((occupied & square) != 0) {
                    over++;
                }
                if (over > hops) {
                    break;
                }
                x += dx;
                y += dy;
            }
            return way;
        }

        long attackedBy(Position p, int side) {
            long attacked = 0;
            for (int square = 0; square < p.squares(); square++) {
                if (has(p.menOf(side), square)) {
                    attacked |= ends(p, square, NOWHERE, EVERYWHERE);
                }
            }
            return attacked;
        }

        /** The squares with men of a side that attack one of some squares. */
        long menAttacking(Position p, int side, long squares) {
            long attackers = 0;
            for (int square = 0; square < p.squares(); square++) {
                if (has(p.menOf(side), square) && (ends(p, square, NOWHERE, EVERYWHERE) & squares) != 0) {
                    attackers |= 1L << square;
                }
            }
            return attackers;
        }

        private long royalMen(Position p, int side) {
            long royal = 0;
            for (int square = 0; square < p.squares(); square++) {
                if (has(p.menOf(side), square) && laws.isRoyal(typeOf(p.manOn(square)))) {
                    royal |= 1L << square;
                }
            }
            return royal;
        }

        boolean isSafe(Position p, int side) {
            if (laws.royalRule == 2) {
                return true;
            }
            long royal = royalMen(p, side);
            if (royal == 0) {
                return true;
            }
            long attacked = attackedBy(p, 1 - side);
            return laws.royalRule == 0 ? (royal & attacked) == 0 : (royal & ~attacked) != 0;
        }

        /** The lowest square with a man that attacks a royal man of a side. */
        int lowestChecker(Position p, int side) {
            long checkers = menAttacking(p, 1 - side, royalMen(p, side));
            for (int square = 0; square < p.squares(); square++) {
                if (has(checkers, square)) {
                    return square;
                }
            }
            return NOTHING;
        }

        /** The man that goes by a move, as it is before, a castling's first one. */
        int goer(Position p, int move) {
            switch (kindOf(move)) {
                case MAN: return p.manOn(firstOf(move));
                case CASTLING: return p.manOn(laws.castlingSquare(firstOf(move), FIRST_FROM));
                default: return manOf(p.turn, firstOf(move));
            }
        }

        /** The man as which the goer arrives. */
        int arrival(Position p, int move) {
            int man = goer(p, move);
            return promotes(p, move) ? manOf(sideOf(man), laws.promotionOf(typeOf(man))) : man;
        }

        boolean promotes(Position p, int move) {
            if (kindOf(move) != MAN) {
                return false;
            }
            int man = p.manOn(firstOf(move));
            return laws.promotionOf(typeOf(man)) >= 0 && p.isFarRow(sideOf(man), secondOf(move));
        }

        /** The man that a move captures, or 0. */
        int captured(Position p, int move) {
            return kindOf(move) == MAN ? p.manOn(secondOf(move)) : 0;
        }

        /** Makes a move and answers the number that takes it back. */
        int apply(Position p, int move) {
            int side = p.turn;
            int rights = p.rights;
            int goer = goer(p, move);
            int captured = captured(p, move);
            int gained = 0;
            p.rights &= ~rightsTouched(move);
            if (kindOf(move) == CASTLING) {
                moveTwo(p, firstOf(move), FIRST_FROM, FIRST_TO);
            } else if (kindOf(move) == MAN) {
                int arrival = arrival(p, move);
                p.put(firstOf(move), 0);
                p.put(secondOf(move), arrival);
                if (captured != 0 && laws.drops == 1 && p.inHand(side, typeOf(captured)) < MOST_IN_HAND) {
                    p.addToHand(side, typeOf(captured), 1);
                    gained = 1;
                }
            } else {
                p.put(secondOf(move), goer);
                p.addToHand(side, typeOf(goer), -1);
            }
            p.turn = 1 - side;
            return goer | captured << 4 | gained << 8 | rights << 9;
        }

        /** Takes back the latest move with the number that apply answered. */
        void retract(Position p, int move, int undo) {
            int side = 1 - p.turn;
            int goer = undo & 15;
            int captured = undo >> 4 & 15;
            p.turn = side;
            p.rights = undo >> 9;
            if (kindOf(move) == CASTLING) {
                moveTwo(p, firstOf(move), FIRST_TO, FIRST_FROM);
            } else if (kindOf(move) == MAN) {
                p.put(firstOf(move), goer);
                p.put(secondOf(move), captured);
                if ((undo >> 8 & 1) != 0) {
                    p.addToHand(side, typeOf(captured), -1);
                }
            } else {
                p.put(secondOf(move), 0);
                p.addToHand(side, typeOf(goer), 1);
            }
        }

        /** Moves both men of a castling, from r and p to s and q or the other way; one may come where the other was. */
        private void moveTwo(Position p, int slot, int from, int to) {
            int firstFrom = laws.castlingSquare(slot, from);
            int secondFrom = laws.castlingSquare(slot, SECOND_FROM + from);
            int first = p.manOn(firstFrom);
            int second = p.manOn(secondFrom);
            p.put(firstFrom, 0);
            p.put(secondFrom, 0);
            p.put(laws.castlingSquare(slot, to), first);
            p.put(laws.castlingSquare(slot, SECOND_FROM + to), second);
        }

        /** The slots whose castlings lose their right by a move. */
        private int rightsTouched(int move) {
            long touched = 0;
            if (kindOf(move) == CASTLING) {
                for (int which = 0; which < 4; which++) {
                    touched |= 1L << laws.castlingSquare(firstOf(move), which);
                }
            } else {
                touched = 1L << secondOf(move);
                if (kindOf(move) == MAN) {
                    touched |= 1L << firstOf(move);
                }
            }
            int lost = 0;
            for (int slot = 0; slot < SLOTS; slot++) {
                if (has(touched, laws.castlingSquare(slot, FIRST_FROM))
                        || has(touched, laws.castlingSquare(slot, SECOND_FROM))) {
                    lost |= 1 << slot;
                }
            }
            return lost;
        }

        void listLegal(Position p, MoveList list) {
            listCandidates(p, list);
            int side = p.turn;
            int kept = 0;
            for (int i = 0; i < list.length; i++) {
                int move = list.moveAt(i);
                int undo = apply(p, move);
                if (isSafe(p, side)) {
                    setCell(list.moves, kept, move);
                    kept++;
                }
                retract(p, move, undo);
            }
            list.length = kept;
        }

        /** Lists the moves in their order, also those by which the side to move would not be safe. */
        void listCandidates(Position p, MoveList list) {
            list.length = 0;
            for (int from = 0; from < p.squares(); from++) {
                if (has(p.menOf(p.turn), from)) {
                    addTargets(p, from, list);
                }
            }
            for (int slot = 0; slot < SLOTS; slot++) {
                if (isPossible(p, slot)) {
                    list.add(coded(CASTLING, slot, 0));
                }
            }
            for (int type = 0; type < TYPES && laws.drops == 1; type++) {
                if (p.inHand(p.turn, type) > 0) {
                    addDrops(p, type, list);
                }
            }
        }

        private void addTargets(Position p, int from, MoveList list) {
            long targets = targets(p, from);
            for (int to = 0; to < p.squares(); to++) {
                if (has(targets, to)) {
                    list.add(coded(MAN, from, to));
                }
            }
        }

        private void addDrops(Position p, int type, MoveList list) {
            boolean promotes = laws.promotionOf(type) >= 0;
            for (int to = 0; to < p.squares(); to++) {
                if (!has(p.white | p.black, to) && !(promotes && p.isFarRow(p.turn, to))) {
                    list.add(coded(DROP, type, to));
                }
            }
        }

        private boolean isPossible(Position p, int slot) {
            if (cell(laws.castlingSides, slot) != p.turn || (p.rights >> slot & 1) == 0) {
                return false;
            }
            int first = laws.castlingSquare(slot, FIRST_FROM);
            int firstTo = laws.castlingSquare(slot, FIRST_TO);
            int second = laws.castlingSquare(slot, SECOND_FROM);
            int secondTo = laws.castlingSquare(slot, SECOND_TO);
            long own = p.menOf(p.turn);
            if (!has(own, first) || !has(own, second) || !laws.isRoyal(typeOf(p.manOn(first)))) {
                return false;
            }
            long others = (p.white | p.black) & ~(1L << first | 1L << second);
            if ((others & span(first, second)) != 0 || has(others, firstTo) || has(others, secondTo)) {
                return false;
            }
            return (attackedBy(p, 1 - p.turn) & span(first, firstTo)) == 0;
        }

        /** The squares of a row from one to another, both included. */
        private static long span(int a, int b) {
            long squares = 0;
            for (int square = Math.min(a, b); square <= Math.max(a, b); square++) {
                squares |= 1L << square;
            }
            return squares;
        }
    }

    /** Counts legal moves, and pairs of them, by moves that are taken back, or in copies of the board. */
    private static final class Counter {
        final Play play;
        final MoveList firstMoves = new MoveList();
        final MoveList secondMoves = new MoveList();
        final Position firstCopy = new Position();
        final Position secondCopy = new Position();

        Counter(Play play) {
            this.play = play;
        }

        int movesMade(Position p) {
            play.listCandidates(p, secondMoves);
            int side = p.turn;
            int n = 0;
            for (int i = 0; i < secondMoves.length; i++) {
                int undo = play.apply(p, secondMoves.moveAt(i));
                if (play.isSafe(p, side)) {
                    n++;
                }
                play.retract(p, secondMoves.moveAt(i), undo);
            }
            return n;
        }

        int pairsMade(Position p) {
            play.listCandidates(p, firstMoves);
            int side = p.turn;
            int n = 0;
            for (int i = 0; i < firstMoves.length; i++) {
                int undo = play.apply(p, firstMoves.moveAt(i));
                if (play.isSafe(p, side)) {
                    n += movesMade(p);
                }
                play.retract(p, firstMoves.moveAt(i), undo);
            }
            return n;
        }

        int movesCopied(Position p) {
            play.listCandidates(p, secondMoves);
            int n = 0;
            for (int i = 0; i < secondMoves.length; i++) {
                secondCopy.copyFrom(p);
                play.apply(secondCopy, secondMoves.moveAt(i));
                if (play.isSafe(secondCopy, p.turn)) {
                    n++;
                }
            }
            return n;
        }

        int pairsCopied(Position p) {
            play.listCandidates(p, firstMoves);
            int n = 0;
            for (int i = 0; i < firstMoves.length; i++) {
                firstCopy.copyFrom(p);
                play.apply(firstCopy, firstMoves.moveAt(i));
                if (play.isSafe(firstCopy, p.turn)) {
                    n += movesCopied(firstCopy);
                }
            }
            return n;
        }
    }
}
