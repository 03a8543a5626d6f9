/** A VariantBoard that counts its calls, as the document promises nothing about what comes after the 512th. */
final class Counted {
    private static final int MOST_CALLS = 512;

    private final VariantBoard board = new VariantBoard();
    private int calls;

    private VariantBoard next() {
        calls++;
        if (calls > MOST_CALLS) {
            throw new IllegalStateException("a test asks more than the document promises: " + calls + " calls");
        }
        return board;
    }

    int feed(int sign) {
        return next().feed(sign);
    }

    int size(int columns, int rows) {
        return next().size(columns, rows);
    }

    int define(int type) {
        return next().define(type);
    }

    int type(int type, int what, int v) {
        return next().type(type, what, v);
    }

    int rule(int what, int v) {
        return next().rule(what, v);
    }

    int setup() {
        return next().setup();
    }

    int side(int side) {
        return next().side(side);
    }

    int hand(int side, int type, int n) {
        return next().hand(side, type, n);
    }

    int castle(int slot, int side, int r, int s, int p, int q) {
        return next().castle(slot, side, r, s, p, q);
    }

    int at(int square) {
        return next().at(square);
    }

    int moves(int kind) {
        return next().moves(kind);
    }

    int move(int move, int what) {
        return next().move(move, what);
    }

    int proof(int from, int to) {
        return next().proof(from, to);
    }

    int make(int move) {
        return next().make(move);
    }

    int back() {
        return next().back();
    }

    long attackers(int square, int side) {
        return next().attackers(square, side);
    }

    long attacked(int side) {
        return next().attacked(side);
    }

    int status() {
        return next().status();
    }

    int sequences(int depth, int way) {
        return next().sequences(depth, way);
    }

    int text(int i) {
        return next().text(i);
    }

    int told(int move, int i) {
        return next().told(move, i);
    }

    int property(int type, int what) {
        return next().property(type, what);
    }

    int digest() {
        return next().digest();
    }

    int image() {
        return next().image();
    }

    int undo() {
        return next().undo();
    }

    int count(int what) {
        return next().count(what);
    }
}
