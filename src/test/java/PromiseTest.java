import java.util.NoSuchElementException;

/** What the document promises, promise by promise: ordinary inputs, the edges it names, and wrong inputs. */
public final class PromiseTest {
    private interface Call {
        void make();
    }

    private static final Class<?> STATE = IllegalStateException.class;
    private static final Class<?> ARGUMENT = IllegalArgumentException.class;
    private static final Class<?> INDEX = IndexOutOfBoundsException.class;
    private static final Class<?> UNSUPPORTED = UnsupportedOperationException.class;
    private static final Class<?> NONE = NoSuchElementException.class;

    private static int promise;
    private static int passed;
    private static int failed;

    private static void note(boolean right, String what) {
        if (right) {
            passed++;
        } else {
            failed++;
            System.out.println("promise " + promise + ": " + what);
        }
    }

    private static void is(String what, Object got, Object due) {
        note(got.equals(due), what + " answered " + got + ", due is " + due);
    }

    private static void refuses(String what, Class<?> due, Call call) {
        Class<?> got = null;
        try {
            call.make();
        } catch (RuntimeException e) {
            got = e.getClass();
        }
        note(got == due, what + " threw " + got + ", due is " + due);
    }

    /** A game that has begun on such a board, without clocks. */
    private static Stonecourt on(int width, int height) {
        Stonecourt c = new Stonecourt();
        c.board(width, height);
        c.start();
        return c;
    }

    /** Moves, two letters each for column and row, '--' for a pass. */
    private static Stonecourt moves(Stonecourt c, String all) {
        for (String move : all.split(" ")) {
            if (move.equals("--")) {
                c.pass();
            } else {
                c.play(move.charAt(0) - 'a', move.charAt(1) - 'a');
            }
        }
        return c;
    }

    private static String look(Stonecourt c, int width, int height) {
        StringBuilder all = new StringBuilder();
        for (int y = 0; y < height; y++) {
            if (y > 0) all.append('/');
            for (int x = 0; x < width; x++) all.append(c.at(x, y));
        }
        return all.toString();
    }

    private static String record(Stonecourt c) {
        StringBuilder all = new StringBuilder();
        for (int i = 0; i < c.line(); i++) all.append(c.sign(i));
        return all.toString();
    }

    private static void newObject() {
        promise = 1;
        Stonecourt c = new Stonecourt();
        is("checksum()", c.checksum(), 7L);
        is("isSound()", c.isSound(), true);
        refuses("turn()", STATE, c::turn);
        is("start()", c.start(), 25);
        is("at(4, 4)", c.at(4, 4), '.');
        is("turn()", c.turn(), 'b');
        refuses("at(5, 0)", INDEX, () -> c.at(5, 0));
        refuses("at(0, 5)", INDEX, () -> c.at(0, 5));
        refuses("periods('b')", UNSUPPORTED, () -> c.periods('b'));
    }

    private static void board() {
        promise = 2;
        Stonecourt c = new Stonecourt();
        is("board(2, 7)", c.board(2, 7), 25);
        is("block(1, 6)", c.block(1, 6), 1);
        is("handicap(0, 0)", c.handicap(0, 0), 1);
        is("board(7, 2)", c.board(7, 2), 14);
        is("start()", c.start(), 14);
        is("turn()", c.turn(), 'b');
        refuses("board(1, 5)", ARGUMENT, () -> c.board(1, 5));
        refuses("board(5, 1)", ARGUMENT, () -> c.board(5, 1));
        refuses("board(8, 5)", ARGUMENT, () -> c.board(8, 5));
        refuses("board(5, 8)", ARGUMENT, () -> c.board(5, 8));
        refuses("board(-5, -5)", ARGUMENT, () -> c.board(-5, -5));
        is("board(3, 3)", c.board(3, 3), 14);
        is("at(6, 1)", c.at(6, 1), '.');
        is("board(7, 7)", c.board(7, 7), 9);
        is("start()", c.start(), 49);
        is("board(2, 2)", c.board(2, 2), 49);
    }

    private static void block() {
        promise = 3;
        Stonecourt c = new Stonecourt();
        c.board(3, 2);
        is("block(2, 1)", c.block(2, 1), 1);
        is("block(0, 0)", c.block(0, 0), 2);
        refuses("block(2, 1)", UNSUPPORTED, () -> c.block(2, 1));
        refuses("block(3, 0)", INDEX, () -> c.block(3, 0));
        refuses("block(0, 2)", INDEX, () -> c.block(0, 2));
        refuses("block(-1, 0)", INDEX, () -> c.block(-1, 0));
        refuses("block(0, -1)", INDEX, () -> c.block(0, -1));
        c.handicap(1, 0);
        refuses("block(1, 0)", UNSUPPORTED, () -> c.block(1, 0));
        is("start()", c.start(), 4);
        is("the board", look(c, 3, 2), "#b./..#");
        is("block(2, 0)", c.block(2, 0), 3);
        is("at(2, 0)", c.at(2, 0), '.');
        is("liberties(1, 0)", c.liberties(1, 0), 2);
    }

    private static void rule() {
        promise = 4;
        Stonecourt c = new Stonecourt();
        for (char rule : "sapwk".toCharArray()) {
            is("rule(" + rule + ", 1)", c.rule(rule, 1), 0);
            is("rule(" + rule + ", 1)", c.rule(rule, 1), 1);
            refuses("rule(" + rule + ", -1)", ARGUMENT, () -> c.rule(rule, -1));
            if (rule != 'k') refuses("rule(" + rule + ", 2)", ARGUMENT, () -> c.rule(rule, 2));
            is("rule(" + rule + ", 0)", c.rule(rule, 0), 1);
        }
        is("rule('k', 2)", c.rule('k', 2), 0);
        refuses("rule('k', 3)", ARGUMENT, () -> c.rule('k', 3));
        is("rule('k', 0)", c.rule('k', 0), 2);
        refuses("rule('x', 0)", ARGUMENT, () -> c.rule('x', 0));
        refuses("rule('S', 0)", ARGUMENT, () -> c.rule('S', 0));
        refuses("rule(0, 0)", ARGUMENT, () -> c.rule((char) 0, 0));
        refuses("rule(65535, 0)", ARGUMENT, () -> c.rule((char) 65535, 0));
        Stonecourt d = on(3, 3);
        d.rule('a', 1);
        d.play(1, 1);
        is("score('b') by territory as told at first", d.score('b'), 8);
        d.start();
        d.play(1, 1);
        is("score('b') by area as told later", d.score('b'), 9);
    }

    private static void komi() {
        promise = 5;
        Stonecourt c = new Stonecourt();
        is("komi(99)", c.komi(99), 13);
        is("komi(-99)", c.komi(-99), 99);
        refuses("komi(100)", ARGUMENT, () -> c.komi(100));
        refuses("komi(-100)", ARGUMENT, () -> c.komi(-100));
        c.start();
        is("margin()", c.margin(), 99);
        is("komi(1)", c.komi(1), -99);
        is("margin()", c.margin(), 99);
        c.start();
        is("margin()", c.margin(), -1);
    }

    private static void handicap() {
        promise = 6;
        Stonecourt c = new Stonecourt();
        for (int i = 0; i < 9; i++) is("handicap", c.handicap(i % 5, 2 * (i / 5)), i + 1);
        c.block(4, 4);
        refuses("a tenth one", STATE, () -> c.handicap(3, 4));
        refuses("a tenth one on another", UNSUPPORTED, () -> c.handicap(0, 0));
        refuses("a tenth one on what is blocked", UNSUPPORTED, () -> c.handicap(4, 4));
        refuses("handicap(5, 0)", INDEX, () -> c.handicap(5, 0));
        refuses("handicap(0, -1)", INDEX, () -> c.handicap(0, -1));
        c.start();
        is("turn()", c.turn(), 'w');
        is("the board", look(c, 5, 5), "bbbbb/...../bbbb./...../....#");
        is("prisoners('w')", c.prisoners('w'), 0);
        is("moves()", c.moves(), 0);
        c.board(5, 5);
        is("handicap(0, 0)", c.handicap(0, 0), 1);
    }

    private static void clock() {
        promise = 7;
        Stonecourt c = new Stonecourt();
        refuses("clock(-1, 0, 1)", ARGUMENT, () -> c.clock(-1, 0, 1));
        refuses("clock(3601, 0, 1)", ARGUMENT, () -> c.clock(3601, 0, 1));
        refuses("clock(0, -1, 1)", ARGUMENT, () -> c.clock(0, -1, 1));
        refuses("clock(0, 6, 1)", ARGUMENT, () -> c.clock(0, 6, 1));
        refuses("clock(0, 0, 0)", ARGUMENT, () -> c.clock(0, 0, 0));
        refuses("clock(0, 0, 61)", ARGUMENT, () -> c.clock(0, 0, 61));
        c.start();
        is("clock(3600, 5, 60)", c.clock(3600, 5, 60), -1);
        refuses("periods('b') of a game without", UNSUPPORTED, () -> c.periods('b'));
        is("clock(0, 0, 1)", c.clock(0, 0, 1), 3600);
        is("clock(7, 2, 1)", c.clock(7, 2, 1), 0);
        c.start();
        is("periods('w')", c.periods('w'), 2);
    }

    private static void start() {
        promise = 8;
        Stonecourt c = new Stonecourt();
        c.board(2, 2);
        c.block(0, 0);
        c.block(0, 1);
        is("start()", c.start(), 2);
        c.play(1, 0);
        c.handicap(1, 0);
        c.handicap(1, 1);
        refuses("start() on a full board", UNSUPPORTED, c::start);
        is("moves() of the game before", c.moves(), 1);
        is("at(1, 0)", c.at(1, 0), 'b');
        Stonecourt d = new Stonecourt();
        d.board(2, 2);
        for (int i = 0; i < 4; i++) d.block(i % 2, i / 2);
        refuses("start() with all blocked", UNSUPPORTED, d::start);
        refuses("moves()", STATE, d::moves);
        is("checksum()", d.checksum(), 7L);
        d.board(5, 2);
        d.handicap(0, 0);
        d.handicap(4, 0);
        d.block(0, 1);
        d.block(1, 0);
        refuses("start() with a handicap without liberties", UNSUPPORTED, d::start);
        d.rule('w', 1);
        is("start() with a liberty of its group across", d.start(), 8);
        is("stones(0, 0)", d.stones(0, 0), 2);
        refuses("start() on a full board again", UNSUPPORTED, c::start);
    }

    private static void play() {
        promise = 9;
        Stonecourt c = new Stonecourt();
        refuses("play(0, 0)", STATE, () -> c.play(0, 0));
        c.board(3, 2);
        c.block(2, 1);
        c.start();
        is("play(0, 0)", c.play(0, 0), 0);
        is("play(0, 1)", c.play(0, 1), 0);
        is("play(1, 1) takes", c.play(1, 1), 1);
        is("the board", look(c, 3, 2), "b../.b#");
        is("prisoners('b')", c.prisoners('b'), 1);
        is("prisoners('w')", c.prisoners('w'), 0);
        refuses("play(2, 1)", UNSUPPORTED, () -> c.play(2, 1));
        refuses("play(0, 0)", UNSUPPORTED, () -> c.play(0, 0));
        refuses("play(0, 1)", UNSUPPORTED, () -> c.play(0, 1));
        refuses("play(3, 0)", INDEX, () -> c.play(3, 0));
        refuses("play(0, 2)", INDEX, () -> c.play(0, 2));
        refuses("play(-1, 0)", INDEX, () -> c.play(-1, 0));
        is("moves()", c.moves(), 3);
        Stonecourt d = new Stonecourt();
        d.board(3, 2);
        d.rule('s', 1);
        d.start();
        moves(d, "ba -- bb aa --");
        is("suicide of two", d.play(0, 1), 2);
        is("the board", look(d, 3, 2), ".b./.b.");
        is("prisoners('b')", d.prisoners('b'), 2);
        is("prisoners('w')", d.prisoners('w'), 0);
        Stonecourt e = moves(on(3, 3), "ab aa cb ca");
        is("play(1, 0) takes two groups", e.play(1, 0), 2);
        is("the board", look(e, 3, 3), ".b./b.b/...");
        e.resign();
        refuses("play(9, 9) in a game over", STATE, () -> e.play(9, 9));
    }

    private static void pass() {
        promise = 10;
        Stonecourt c = new Stonecourt();
        refuses("pass()", STATE, c::pass);
        c.start();
        is("pass()", c.pass(), false);
        c.play(0, 0);
        is("pass() behind a move", c.pass(), false);
        is("pass() behind a pass", c.pass(), true);
        is("isOver()", c.isOver(), true);
        is("moves()", c.moves(), 4);
        refuses("pass()", STATE, c::pass);
        c.start();
        is("pass() first", c.pass(), false);
        is("pass() second", c.pass(), true);
    }

    private static void resign() {
        promise = 11;
        Stonecourt c = new Stonecourt();
        refuses("resign()", STATE, c::resign);
        c.start();
        is("resign() of black", c.resign(), 'w');
        is("winner()", c.winner(), 'w');
        is("moves()", c.moves(), 0);
        refuses("resign()", STATE, c::resign);
        c.start();
        c.pass();
        is("resign() of white", c.resign(), 'b');
        is("winner()", c.winner(), 'b');
        is("isOver()", c.isOver(), true);
    }

    private static void undo() {
        promise = 12;
        Stonecourt c = new Stonecourt();
        refuses("undo()", UNSUPPORTED, c::undo);
        c.board(3, 3);
        c.clock(10, 0, 1);
        c.start();
        refuses("undo()", UNSUPPORTED, c::undo);
        moves(c, "aa ab bb ba cb ca -- --");
        long before = c.checksum();
        is("dead(1, 1)", c.dead(1, 1), 2);
        is("undo()", c.undo(), 7);
        is("isOver()", c.isOver(), false);
        is("pass()", c.pass(), true);
        is("checksum()", c.checksum(), before);
        is("dead(1, 0), the others forgotten", c.dead(1, 0), 2);
        is("undo()", c.undo(), 7);
        is("undo()", c.undo(), 6);
        is("undo()", c.undo(), 5);
        is("undo()", c.undo(), 4);
        is("undo()", c.undo(), 3);
        is("the board", look(c, 3, 3), "b../wb./...");
        is("turn()", c.turn(), 'w');
        is("think(4)", c.think(4), 6);
        is("undo()", c.undo(), 2);
        is("undo()", c.undo(), 1);
        is("clocks stay", c.think(1), 5);
        is("prisoners('b')", c.prisoners('b'), 0);
        c.resign();
        refuses("undo() behind resign()", UNSUPPORTED, c::undo);
        c.start();
        c.pass();
        c.think(11);
        refuses("undo() behind the time", UNSUPPORTED, c::undo);
        Stonecourt d = moves(on(2, 2), "aa ab bb");
        is("prisoners('b')", d.prisoners('b'), 1);
        d.undo();
        is("prisoners('b')", d.prisoners('b'), 0);
        is("the board", look(d, 2, 2), "b./w.");
    }

    /** White has just taken black's stone at (2, 1) by one at (1, 1). */
    private static Stonecourt ko(int rule) {
        Stonecourt c = new Stonecourt();
        c.board(4, 3);
        c.rule('k', rule);
        c.start();
        return moves(c, "ba ca ab db bc cc cb bb");
    }

    private static void barred() {
        promise = 13;
        Stonecourt c = new Stonecourt();
        refuses("barred(9, 9)", STATE, () -> c.barred(9, 9));
        c.board(3, 3);
        c.block(2, 2);
        c.start();
        moves(c, "ba -- ab");
        is("barred(0, 0)", c.barred(0, 0), 's');
        is("barred(1, 0)", c.barred(1, 0), 'p');
        is("barred(2, 2)", c.barred(2, 2), '#');
        is("barred(1, 1)", c.barred(1, 1), '-');
        refuses("barred(3, 0)", INDEX, () -> c.barred(3, 0));
        refuses("barred(0, -1)", INDEX, () -> c.barred(0, -1));
        c.pass();
        is("barred(0, 0) for black", c.barred(0, 0), '-');
        c.pass();
        refuses("barred(0, 0)", STATE, () -> c.barred(0, 0));
        suicides();
        kos();
    }

    private static void suicides() {
        for (int allowed = 0; allowed <= 1; allowed++) {
            Stonecourt c = new Stonecourt();
            c.board(3, 2);
            c.rule('s', allowed);
            c.start();
            moves(c, "ba -- bb");
            is("barred(0, 0) with a liberty beside", c.barred(0, 0), '-');
            moves(c, "aa --");
            is("barred(0, 1), two stones, by " + allowed, c.barred(0, 1), allowed == 1 ? '-' : 's');
            c.start();
            moves(c, "ba -- ab");
            is("barred(0, 0), this stone alone, by " + allowed, c.barred(0, 0), 's');
            c.start();
            moves(c, "ab aa ba");
            is("barred(0, 0) where a stone was taken, by " + allowed, c.barred(0, 0), 's');
            c.start();
            moves(c, "ab aa -- ba bb");
            is("barred(2, 0), no suicide as it hangs to others", c.barred(2, 0), '-');
            moves(c, "-- cb");
            is("barred(2, 0), which takes ahead of that", c.barred(2, 0), '-');
            is("play(2, 0)", c.play(2, 0), 3);
        }
    }

    private static void kos() {
        for (int rule = 0; rule <= 2; rule++) {
            Stonecourt c = ko(rule);
            is("the board", look(c, 4, 3), ".bw./bw.w/.bw.");
            is("barred(2, 1) by ko " + rule, c.barred(2, 1), 'k');
            refuses("play(2, 1)", UNSUPPORTED, () -> c.play(2, 1));
            moves(c, "aa");
            is("barred(2, 1) for white", c.barred(2, 1), '-');
            moves(c, "da");
            is("barred(2, 1) with more stones", c.barred(2, 1), '-');
            c.undo();
            c.undo();
            is("barred(2, 1) with these taken back", c.barred(2, 1), 'k');
            c.undo();
            is("barred(1, 1), a position taken back", c.barred(1, 1), '-');
            koOfThreePoints(rule);
            koBehindAPass(rule);
            koOfTheBeginning(rule);
        }
    }

    /** Three points in a row, (0, 1), (0, 0) and (1, 0), on which boards come again in two ways. */
    private static void koOfThreePoints(int rule) {
        Stonecourt c = new Stonecourt();
        c.board(2, 2);
        c.block(1, 1);
        c.rule('k', rule);
        c.start();
        moves(c, "ab ba aa ba");
        is("the board", look(c, 2, 2), ".w/.#");
        is("the board of black's turn, now white's, by ko " + rule, c.barred(0, 1), rule == 1 ? 'k' : '-');
        if (rule == 1) return;
        moves(c, "ab aa");
        is("the board", look(c, 2, 2), "ww/.#");
        is("the board behind the first move, by ko " + rule, c.barred(0, 1), rule == 2 ? 'k' : '-');
        is("isSound()", c.isSound(), true);
    }

    /** White has taken the one handicap; to take back comes to the beginning. */
    private static void koOfTheBeginning(int rule) {
        Stonecourt c = new Stonecourt();
        c.board(2, 2);
        c.block(0, 1);
        c.block(1, 1);
        c.handicap(0, 0);
        c.rule('k', rule);
        c.start();
        is("play(1, 0)", c.play(1, 0), 1);
        is("the beginning, by ko " + rule, c.barred(0, 0), 'k');
    }

    /** White's suicide comes to the board ahead of its move before; black has passed between them. */
    private static void koBehindAPass(int rule) {
        Stonecourt c = new Stonecourt();
        c.board(3, 2);
        c.rule('s', 1);
        c.rule('k', rule);
        c.start();
        moves(c, "ba -- bb aa --");
        is("the board ahead of a move and a pass, by ko " + rule, c.barred(0, 1), rule == 1 ? 'k' : '-');
    }

    private static void turn() {
        promise = 14;
        Stonecourt c = new Stonecourt();
        refuses("turn()", STATE, c::turn);
        c.handicap(0, 0);
        c.start();
        is("turn() with a handicap", c.turn(), 'w');
        c.pass();
        is("turn()", c.turn(), 'b');
        c.play(1, 1);
        is("turn()", c.turn(), 'w');
        c.undo();
        is("turn()", c.turn(), 'b');
        c.resign();
        refuses("turn() in a game over", STATE, c::turn);
    }

    private static void at() {
        promise = 15;
        Stonecourt c = new Stonecourt();
        refuses("at(9, 9)", STATE, () -> c.at(9, 9));
        c.board(2, 3);
        c.block(1, 2);
        c.start();
        moves(c, "ab bb");
        is("the board", look(c, 2, 3), "../bw/.#");
        c.board(7, 7);
        refuses("at(2, 0)", INDEX, () -> c.at(2, 0));
        refuses("at(0, 3)", INDEX, () -> c.at(0, 3));
        refuses("at(-1, 0)", INDEX, () -> c.at(-1, 0));
        c.resign();
        is("at(0, 1) in a game over", c.at(0, 1), 'b');
    }

    private static void stonesAndLiberties() {
        promise = 16;
        Stonecourt n = new Stonecourt();
        refuses("stones(9, 9)", STATE, () -> n.stones(9, 9));
        Stonecourt c = new Stonecourt();
        c.board(4, 3);
        c.block(1, 2);
        c.rule('w', 1);
        c.start();
        moves(c, "aa bb ba ca ab dc");
        is("stones(0, 0)", c.stones(0, 0), 3);
        is("stones(1, 1)", c.stones(1, 1), 1);
        is("stones(2, 0)", c.stones(2, 0), 1);
        refuses("stones(3, 0)", NONE, () -> c.stones(3, 0));
        refuses("stones(1, 2)", NONE, () -> c.stones(1, 2));
        refuses("stones(4, 0)", INDEX, () -> c.stones(4, 0));
        promise = 17;
        refuses("liberties(9, 9)", STATE, () -> n.liberties(9, 9));
        is("liberties(0, 0), across too", c.liberties(0, 0), 3);
        is("liberties(1, 1)", c.liberties(1, 1), 1);
        is("liberties(3, 2), across too", c.liberties(3, 2), 3);
        refuses("liberties(3, 0)", NONE, () -> c.liberties(3, 0));
        refuses("liberties(1, 2)", NONE, () -> c.liberties(1, 2));
        refuses("liberties(0, 3)", INDEX, () -> c.liberties(0, 3));
        c.board(3, 3);
        c.start();
        moves(c, "-- ac cb");
        is("liberties(0, 2) of another width", c.liberties(0, 2), 3);
        is("liberties(2, 1) of another width", c.liberties(2, 1), 4);
        c.rule('w', 0);
        c.start();
        moves(c, "ac cb");
        is("liberties(0, 2) of another width", c.liberties(0, 2), 2);
        is("liberties(2, 1) of another width", c.liberties(2, 1), 3);
        c.board(4, 3);
        c.start();
        moves(c, "aa da");
        is("liberties(0, 0) without", c.liberties(0, 0), 2);
        Stonecourt d = new Stonecourt();
        d.board(2, 2);
        d.rule('w', 1);
        d.start();
        moves(d, "aa");
        is("liberties(0, 0) on two columns", d.liberties(0, 0), 2);
        c.board(3, 2);
        c.rule('w', 1);
        c.start();
        moves(c, "aa");
        is("liberties(0, 0) on three columns", c.liberties(0, 0), 3);
        is("no way across rows: liberties", moves(on(2, 3), "aa").liberties(0, 0), 2);
    }

    private static void prisoners() {
        promise = 18;
        Stonecourt c = new Stonecourt();
        refuses("prisoners('x')", STATE, () -> c.prisoners('x'));
        c.board(2, 2);
        c.rule('p', 1);
        c.start();
        refuses("prisoners('x')", ARGUMENT, () -> c.prisoners('x'));
        refuses("prisoners('B')", ARGUMENT, () -> c.prisoners('B'));
        moves(c, "aa ba --");
        is("prisoners('w') behind a pass", c.prisoners('w'), 0);
        moves(c, "ab");
        is("prisoners('w')", c.prisoners('w'), 1);
        is("prisoners('b')", c.prisoners('b'), 0);
        c.start();
        is("prisoners('w') of a new game", c.prisoners('w'), 0);
    }

    private static void movesAndOver() {
        promise = 19;
        Stonecourt c = new Stonecourt();
        refuses("moves()", STATE, c::moves);
        c.start();
        is("moves()", c.moves(), 0);
        moves(c, "aa -- bb");
        is("moves()", c.moves(), 3);
        c.resign();
        is("moves()", c.moves(), 3);
        promise = 20;
        is("isOver()", c.isOver(), true);
        c.start();
        is("isOver()", c.isOver(), false);
        is("moves()", c.moves(), 0);
        c.pass();
        is("isOver()", c.isOver(), false);
        c.pass();
        is("isOver()", c.isOver(), true);
        refuses("isOver()", STATE, () -> new Stonecourt().isOver());
    }

    /** Black holds the left, white the right; one stone of each stands in the other's land. */
    private static Stonecourt twoLands() {
        return moves(on(5, 5), "ba da bb db bc dc bd dd be de ee aa");
    }

    private static void dead() {
        promise = 21;
        Stonecourt c = twoLands();
        refuses("dead(0, 0)", UNSUPPORTED, () -> c.dead(0, 0));
        moves(c, "-- --");
        refuses("dead(2, 2)", NONE, () -> c.dead(2, 2));
        refuses("dead(5, 2)", INDEX, () -> c.dead(5, 2));
        is("dead(0, 0)", c.dead(0, 0), 1);
        is("dead(4, 4)", c.dead(4, 4), 2);
        is("dead(1, 2)", c.dead(1, 2), 7);
        is("dead(1, 0)", c.dead(1, 0), 2);
        is("dead(0, 0)", c.dead(0, 0), 1);
        Stonecourt d = twoLands();
        d.resign();
        refuses("dead(0, 0) behind resign()", UNSUPPORTED, () -> d.dead(0, 0));
        refuses("dead(2, 2) behind resign()", NONE, () -> d.dead(2, 2));
        refuses("dead(9, 9)", STATE, () -> new Stonecourt().dead(9, 9));
        c.start();
        moves(c, "aa -- --");
        is("dead(0, 0) of a new game", c.dead(0, 0), 1);
    }

    private static void scoreAndMargin() {
        promise = 22;
        Stonecourt c = twoLands();
        is("score('b')", c.score('b'), 0);
        is("score('w')", c.score('w'), 0);
        promise = 23;
        is("margin()", c.margin(), -13);
        promise = 22;
        moves(c, "-- --");
        c.dead(0, 0);
        is("score('b')", c.score('b'), 6);
        is("score('w')", c.score('w'), 0);
        promise = 23;
        is("margin()", c.margin(), -1);
        promise = 22;
        c.dead(4, 4);
        is("score('w')", c.score('w'), 6);
        c.dead(0, 0);
        is("score('b')", c.score('b'), 0);
        c.dead(1, 0);
        is("score('w') with its own in black's dead land", c.score('w'), 25 - 6 + 6);
        refuses("score('x')", ARGUMENT, () -> c.score('x'));
        refuses("score('x')", STATE, () -> new Stonecourt().score('x'));
        passesThatCost();
        Stonecourt d = new Stonecourt();
        d.board(5, 5);
        d.rule('a', 1);
        d.rule('p', 1);
        d.start();
        moves(d, "ba da bb db bc dc bd dd be de -- --");
        is("score('b') by area", d.score('b'), 10);
        is("score('w') by area", d.score('w'), 10);
        d.dead(1, 0);
        is("score('b') by area, all dead", d.score('b'), 0);
        is("score('w') by area, all", d.score('w'), 25);
        promise = 23;
        is("margin()", d.margin(), -50 - 13);
        refuses("margin()", STATE, () -> new Stonecourt().margin());
        promise = 22;
        is("score('b') of an empty board", on(5, 5).score('b'), 0);
        Stonecourt e = moves(on(3, 3), "ab aa ba");
        is("score('b') with a prisoner", e.score('b'), 7 + 1);
        is("score('w')", e.score('w'), 0);
        Stonecourt f = moves(on(3, 3), "-- ab aa ba");
        is("score('w') with a prisoner", f.score('w'), 7 + 1);
        is("score('b')", f.score('b'), 0);
    }

    private static void passesThatCost() {
        for (int cost = 0; cost <= 1; cost++) {
            Stonecourt c = new Stonecourt();
            c.board(3, 3);
            c.rule('p', cost);
            c.start();
            moves(c, "bb -- aa -- --");
            is("score('b'), two passes of white, " + cost, c.score('b'), 7 + 2 * cost);
            is("score('w'), a pass of black, " + cost, c.score('w'), cost);
            c.undo();
            is("score('w'), none of black", c.score('w'), 0);
            c.start();
            moves(c, "-- bb");
            is("score('w'), a pass of black at first, " + cost, c.score('w'), 8 + cost);
        }
    }

    private static void winner() {
        promise = 24;
        Stonecourt c = new Stonecourt();
        refuses("winner()", STATE, c::winner);
        c.board(3, 3);
        c.komi(16);
        c.start();
        refuses("winner()", NONE, c::winner);
        moves(c, "bb -- --");
        is("winner() of none", c.winner(), '=');
        c.dead(1, 1);
        is("winner()", c.winner(), 'w');
        c.komi(15);
        c.start();
        moves(c, "bb -- --");
        is("winner()", c.winner(), 'b');
        c.undo();
        refuses("winner() behind undo()", NONE, c::winner);
        c.undo();
        c.resign();
        is("winner() behind resign()", c.winner(), 'b');
    }

    private static void life() {
        promise = 25;
        Stonecourt c = moves(on(5, 2), "ba da bb db");
        is("isAlive(1, 0) with one vital area", c.isAlive(1, 0), false);
        is("isAlive(3, 1)", c.isAlive(3, 1), false);
        Stonecourt d = moves(on(5, 2), "ba ea bb -- ca -- da -- db");
        is("isAlive(1, 0) with three, in one of them white", d.isAlive(1, 0), true);
        is("isAlive(4, 0)", d.isAlive(4, 0), false);
        refuses("isAlive(0, 0)", NONE, () -> d.isAlive(0, 0));
        refuses("isAlive(5, 0)", INDEX, () -> d.isAlive(5, 0));
        refuses("isAlive(9, 9)", STATE, () -> new Stonecourt().isAlive(9, 9));
        promise = 26;
        is("safe('b')", d.safe('b'), 10);
        is("safe('w')", d.safe('w'), 0);
        refuses("safe('x')", ARGUMENT, () -> d.safe('x'));
        refuses("safe('x')", STATE, () -> new Stonecourt().safe('x'));
        Stonecourt w = moves(on(5, 2), "ea ba -- bb -- ca -- da -- db");
        promise = 25;
        is("isAlive(1, 0) of white", w.isAlive(1, 0), true);
        is("isAlive(4, 0) of black", w.isAlive(4, 0), false);
        promise = 26;
        is("safe('w')", w.safe('w'), 10);
        is("safe('b')", w.safe('b'), 0);
        Stonecourt f = moves(on(7, 3), "ba -- bb -- ab -- gc");
        is("safe('w') of a stone in a large area", f.safe('w'), 0);
        is("safe('b') of an empty board", on(3, 3).safe('b'), 0);
    }

    private static void lifeOfSeveralGroups() {
        // the right one has only the column between them, so that the left one loses this, too
        Stonecourt c = moves(on(7, 3), "ba -- bb -- bc -- da -- db -- dc --");
        promise = 25;
        is("isAlive(3, 1)", c.isAlive(3, 1), false);
        is("isAlive(1, 1)", c.isAlive(1, 1), false);
        promise = 26;
        is("safe('b')", c.safe('b'), 0);
        moves(c, "cb");
        promise = 25;
        is("isAlive(1, 1), hanging together", c.isAlive(1, 1), true);
        promise = 26;
        is("safe('b') without the large area", c.safe('b'), 7 + 2 + 3);
        for (int wrap = 0; wrap <= 1; wrap++) {
            Stonecourt d = new Stonecourt();
            d.board(4, 2);
            d.rule('w', wrap);
            d.start();
            moves(d, "aa -- ab -- ca -- cb");
            promise = 25;
            is("isAlive(0, 0) with two shared columns, " + wrap, d.isAlive(0, 0), wrap == 1);
            promise = 26;
            is("safe('b') with two shared columns, " + wrap, d.safe('b'), 8 * wrap);
        }
    }

    private static void isCaught() {
        promise = 27;
        refuses("isCaught(9, 9, 9)", STATE, () -> new Stonecourt().isCaught(9, 9, 9));
        Stonecourt c = moves(on(5, 5), "aa ba");
        refuses("isCaught(5, 0, 9)", INDEX, () -> c.isCaught(5, 0, 9));
        refuses("isCaught(2, 2, 0)", ARGUMENT, () -> c.isCaught(2, 2, 0));
        refuses("isCaught(2, 2, 5)", ARGUMENT, () -> c.isCaught(2, 2, 5));
        refuses("isCaught(2, 2, 1)", NONE, () -> c.isCaught(2, 2, 1));
        is("isCaught(0, 0, 1) with one liberty", c.isCaught(0, 0, 1), true);
        is("isCaught(0, 0, 4) with one liberty", c.isCaught(0, 0, 4), true);
        is("isCaught(1, 0, 1) with two", c.isCaught(1, 0, 1), false);
        // from (1, 0) black's way leads into the corner, from (2, 0) it takes a move more
        Stonecourt d = moves(on(5, 5), "ba bb");
        is("isCaught(1, 0, 1)", d.isCaught(1, 0, 1), false);
        is("isCaught(1, 0, 2)", d.isCaught(1, 0, 2), true);
        Stonecourt e = moves(on(5, 5), "ca cb");
        is("isCaught(2, 0, 2)", e.isCaught(2, 0, 2), false);
        is("isCaught(2, 0, 3)", e.isCaught(2, 0, 3), true);
        is("isCaught(2, 0, 4)", e.isCaught(2, 0, 4), true);
        is("isCaught(2, 1, 4) with three", e.isCaught(2, 1, 4), false);
        // white at (2, 0) would be suicide, and at (0, 0) it lets black hang to the others
        Stonecourt f = moves(on(5, 5), "ba bb da -- cb");
        is("isCaught(1, 0, 2) by suicide", f.isCaught(1, 0, 2), false);
        Stonecourt g = moves(on(3, 3), "bb");
        is("isCaught(1, 1, 3) with four liberties", g.isCaught(1, 1, 3), false);
        Stonecourt h = moves(on(5, 5), "-- ba bb");
        is("isCaught(1, 0, 2) of white", h.isCaught(1, 0, 2), true);
        is("isCaught(1, 0, 1) of white", h.isCaught(1, 0, 1), false);
        caughtButForAnAnswer();
    }

    /** White at (2, 0) catches black at (1, 0), if black can't take this stone at (3, 0). */
    private static void caughtButForAnAnswer() {
        Stonecourt c = new Stonecourt();
        c.board(4, 3);
        c.block(1, 1);
        c.start();
        moves(c, "ba dc");
        is("isCaught(1, 0, 2)", c.isCaught(1, 0, 2), true);
        moves(c, "cb");
        is("isCaught(1, 0, 2) as its catcher is taken", c.isCaught(1, 0, 2), false);
        Stonecourt d = new Stonecourt();
        d.handicap(4, 4);
        d.start();
        moves(d, "aa bd dd ec de be cc cd da ab ba eb ad ac bb -- ed --");
        is("the board", look(d, 5, 5), "ww.w./bw..b/b.w.b/wbbww/.b.w.");
        // white could get out by taking (0, 1) and (0, 2) at (1, 2), but these are not next to it
        is("isCaught(3, 4, 4)", d.isCaught(3, 4, 4), true);
    }

    private static void influence() {
        promise = 28;
        refuses("influence(9, 9)", STATE, () -> new Stonecourt().influence(9, 9));
        Stonecourt c = new Stonecourt();
        c.board(7, 3);
        c.block(1, 0);
        c.start();
        moves(c, "aa gc");
        is("influence(0, 0)", c.influence(0, 0), 8);
        is("influence(1, 0) of what is blocked", c.influence(1, 0), 4);
        is("influence(2, 0)", c.influence(2, 0), 2);
        is("influence(2, 1)", c.influence(2, 1), 1);
        is("influence(3, 1)", c.influence(3, 1), 0);
        is("influence(6, 2)", c.influence(6, 2), -8);
        is("influence(6, 0)", c.influence(6, 0), -2);
        refuses("influence(7, 0)", INDEX, () -> c.influence(7, 0));
        c.rule('w', 1);
        c.start();
        moves(c, "aa gc");
        is("influence(6, 0) across", c.influence(6, 0), 4 - 2);
        is("influence(0, 2) across", c.influence(0, 2), 2 - 4);
    }

    private static void pattern() {
        promise = 29;
        Stonecourt c = new Stonecourt();
        is("pattern(0, 'b')", c.pattern(0, 'b'), '?');
        is("pattern(0, 'w')", c.pattern(0, 'w'), 'b');
        is("pattern(0, '.')", c.pattern(0, '.'), 'w');
        is("pattern(0, '#')", c.pattern(0, '#'), '.');
        is("pattern(8, '#')", c.pattern(8, '#'), '?');
        is("pattern(0, '?')", c.pattern(0, '?'), '#');
        refuses("pattern(9, 'x')", INDEX, () -> c.pattern(9, 'x'));
        refuses("pattern(-1, 'b')", INDEX, () -> c.pattern(-1, 'b'));
        refuses("pattern(0, 'x')", ARGUMENT, () -> c.pattern(0, 'x'));
        refuses("pattern(0, 0)", ARGUMENT, () -> c.pattern(0, (char) 0));
        promise = 30;
        refuses("found()", STATE, c::found);
        Stonecourt d = new Stonecourt();
        d.board(4, 3);
        d.block(3, 2);
        d.rule('w', 1);
        d.start();
        is("found() of anything", d.found(), 11);
        d.pattern(4, '#');
        is("found() of what is blocked", d.found(), 0);
        d.pattern(4, '.');
        d.pattern(3, '#');
        is("found() at edges and what is blocked", d.found(), 9);
        d.pattern(0, '#');
        d.pattern(1, '#');
        is("found() at corners", d.found(), 5);
        for (int i = 0; i < 9; i++) d.pattern(i, '?');
        moves(d, "bb ba");
        d.pattern(0, 'w');
        d.pattern(1, 'b');
        is("found() in all ways", d.found(), 2);
        d.pattern(4, 'b');
        is("found() with a stone", d.found(), 0);
        Stonecourt e = moves(on(3, 3), "bb");
        e.pattern(4, 'b');
        e.pattern(0, 'b');
        e.pattern(1, 'w');
        e.pattern(2, '.');
        for (String turned : "aa ba,ca ba,aa ab,ac ab,ca cb,cc cb,ac bc,cc bc".split(",")) {
            moves(e, "-- " + turned.substring(0, 2) + " " + turned.substring(3));
            is("found() of " + turned, e.found(), 1);
            e.undo();
            e.undo();
            e.undo();
        }
        d.start();
        d.pattern(0, '?');
        d.pattern(1, 'w');
        is("found() of a new game", d.found(), 0);
        moves(d, "bb ba");
        is("found() beside", d.found(), 1);
    }

    private static void shape() {
        promise = 31;
        refuses("shape()", STATE, () -> new Stonecourt().shape());
        is("shape() of nothing", on(2, 2).shape(), 7L * 31 * 31 * 31 * 31);
        for (String at : "aa ba ab bb".split(" ")) {
            is("shape() of black at " + at, moves(on(2, 2), at).shape(), 7L * 31 * 31 * 31 * 31 + 1);
        }
        for (String at : "aa ca ab cb".split(" ")) {
            is("shape() of black at " + at, moves(on(3, 2), at).shape(), sum(7, 0, 0, 0, 0, 0, 1));
        }
        for (String at : "ba aa,aa ba,ba ca,ca ba,ab aa,aa ab,ab ac,ca cb,cb cc,cc bc,bc ac".split(",")) {
            boolean corner = !at.startsWith("b") && !at.matches(".b .*");
            long due = corner ? sum(7, 0, 0, 0, 0, 0, 0, 0, 2, 1) : sum(7, 0, 0, 0, 0, 0, 0, 0, 1, 2);
            is("shape() of " + at, moves(on(3, 3), at).shape(), due);
        }
        Stonecourt c = new Stonecourt();
        c.board(2, 3);
        c.block(0, 2);
        c.start();
        moves(c, "aa ba");
        long[] ways = {sum(7, 1, 2, 0, 0, 3, 0), sum(7, 2, 1, 0, 0, 0, 3), sum(7, 3, 0, 0, 0, 1, 2),
            sum(7, 0, 3, 0, 0, 2, 1)};
        long least = ways[0];
        for (long way : ways) least = Math.min(least, way);
        is("shape() of six points", c.shape(), least);
        is("the least", least, sum(7, 0, 3, 0, 0, 2, 1));
        Stonecourt d = moves(on(3, 3), "ba ca");
        Stonecourt e = moves(on(3, 3), "cb cc");
        is("shapes of turned boards", d.shape(), e.shape());
        is("shapes of mirrored boards", moves(on(3, 3), "ba aa").shape(), d.shape());
        note(moves(on(3, 3), "ba bb").shape() != d.shape(), "shapes of other boards are the same");
        note(moves(on(7, 7), "aa").shape() == moves(on(7, 7), "gg").shape(), "shapes of large boards");
    }

    private static long sum(long first, int... cells) {
        long sum = first;
        for (int cell : cells) sum = 31 * sum + cell;
        return sum;
    }

    private static void think() {
        promise = 32;
        Stonecourt c = new Stonecourt();
        refuses("think(0)", STATE, () -> c.think(0));
        c.start();
        refuses("think(0)", ARGUMENT, () -> c.think(0));
        refuses("think(601)", ARGUMENT, () -> c.think(601));
        refuses("think(1)", UNSUPPORTED, () -> c.think(1));
        c.clock(5, 2, 10);
        c.start();
        is("think(4)", c.think(4), 1);
        is("think(1)", c.think(1), -990);
        is("think(9)", c.think(9), -999);
        is("periods('b')", c.periods('b'), 2);
        is("think(1)", c.think(1), -990);
        is("periods('b')", c.periods('b'), 1);
        is("think(3)", c.think(3), -993);
        c.pass();
        is("think(5) of white", c.think(5), -990);
        is("think(3) of white", c.think(3), -993);
        c.play(0, 0);
        is("think(2) with all seconds back", c.think(2), -992);
        c.undo();
        is("think(1) of white, whose seconds came back", c.think(1), -991);
        c.undo();
        is("think(1), the clocks stay", c.think(1), -993);
        is("think(7)", c.think(7), -1000);
        is("periods('b')", c.periods('b'), 0);
        is("isOver()", c.isOver(), false);
        is("think(1)", c.think(1), -2000);
        is("isOver()", c.isOver(), true);
        is("winner()", c.winner(), 'w');
        refuses("think(1)", STATE, () -> c.think(1));
        c.clock(0, 0, 1);
        c.start();
        is("think(1) without time", c.think(1), -2000);
        c.clock(600, 0, 1);
        c.start();
        is("think(600)", c.think(600), -1000);
        c.clock(3, 2, 2);
        c.start();
        is("think(8) over more than a period", c.think(6), -999);
        is("periods('b')", c.periods('b'), 1);
        c.start();
        is("think(7)", c.think(7), -1000);
        c.start();
        is("think(8)", c.think(8), -2000);
    }

    private static void periods() {
        promise = 33;
        Stonecourt c = new Stonecourt();
        refuses("periods('x')", STATE, () -> c.periods('x'));
        c.start();
        refuses("periods('x')", ARGUMENT, () -> c.periods('x'));
        refuses("periods('w')", UNSUPPORTED, () -> c.periods('w'));
        c.clock(0, 3, 2);
        c.start();
        c.think(4);
        is("periods('b')", c.periods('b'), 1);
        is("periods('w')", c.periods('w'), 3);
        c.resign();
        is("periods('b') in a game over", c.periods('b'), 1);
        c.start();
        is("periods('b') of a new game", c.periods('b'), 3);
    }

    private static void value() {
        promise = 34;
        Stonecourt c = new Stonecourt();
        refuses("value(9)", STATE, () -> c.value(9));
        c.board(2, 2);
        c.komi(0);
        c.start();
        refuses("value(-1)", ARGUMENT, () -> c.value(-1));
        refuses("value(3)", ARGUMENT, () -> c.value(3));
        is("value(0)", c.value(0), 0);
        is("value(1)", c.value(1), 8);
        is("value(2)", c.value(2), 0);
        c.play(0, 0);
        is("value(0) for white", c.value(0), -8);
        is("value(1) for white", c.value(1), 0);
        c.resign();
        refuses("value(1)", STATE, () -> c.value(1));
        c.komi(13);
        c.start();
        is("value(0) less the komi", c.value(0), -13);
        c.pass();
        is("value(0) for white", c.value(0), 13);
        c.board(3, 3);
        c.komi(0);
        c.rule('p', 1);
        c.start();
        moves(c, "bb");
        is("value(2) for white, a stone of each more", c.value(2), -2);
        c.pass();
        is("value(2) as to pass ends the game", c.value(2), 18);
        Stonecourt d = new Stonecourt();
        d.board(3, 2);
        d.komi(0);
        d.rule('s', 1);
        d.start();
        moves(d, "ba -- bb aa -- ab");
        is("value(0) with all the board", d.value(0), 12);
        is("value(1)", d.value(1), 12);
        is("value(2) as white comes again", d.value(2), 6);
        promise = 35;
        is("best(2) to end the game", c.best(2), -1);
        promise = 36;
        is("loss(0, 0, 2) by going on", c.loss(0, 0, 2), 16);
    }

    private static void best() {
        promise = 35;
        Stonecourt c = new Stonecourt();
        refuses("best(0)", STATE, () -> c.best(0));
        c.board(3, 3);
        c.komi(0);
        c.start();
        refuses("best(0)", ARGUMENT, () -> c.best(0));
        refuses("best(3)", ARGUMENT, () -> c.best(3));
        is("best(1), the first of many", c.best(1), 0);
        is("best(2), where white has no good answer", c.best(2), 0);
        moves(c, "bb");
        is("best(1) for white", c.best(1), 0);
        // black's two points are its last liberties, for white they are suicide
        Stonecourt d = moves(on(2, 2), "aa -- bb --");
        is("best(1) as all come to the same", d.best(1), 1);
        is("best(2), to pass", d.best(2), -1);
        promise = 36;
        is("loss(1, 0, 1)", d.loss(1, 0, 1), 0);
        is("loss(1, 0, 2) of all the board", d.loss(1, 0, 2), 16);
        promise = 35;
        d.pass();
        d.undo();
        d.undo();
        is("best(1) with all points barred", d.best(1), -1);
        d.resign();
        refuses("best(1)", STATE, () -> d.best(1));
    }

    private static void loss() {
        promise = 36;
        Stonecourt c = new Stonecourt();
        refuses("loss(9, 9, 9)", STATE, () -> c.loss(9, 9, 9));
        c.board(2, 2);
        c.block(1, 1);
        c.komi(0);
        c.start();
        refuses("loss(2, 0, 9)", INDEX, () -> c.loss(2, 0, 9));
        refuses("loss(1, 1, 0)", ARGUMENT, () -> c.loss(1, 1, 0));
        refuses("loss(1, 1, 3)", ARGUMENT, () -> c.loss(1, 1, 3));
        refuses("loss(1, 1, 1)", UNSUPPORTED, () -> c.loss(1, 1, 1));
        is("loss(1, 0, 1)", c.loss(1, 0, 1), 0);
        moves(c, "ba");
        refuses("loss(1, 0, 1)", UNSUPPORTED, () -> c.loss(1, 0, 1));
        // white at (0, 0) takes black's stone; at (0, 1) it only shares
        is("loss(0, 0, 1) for white", c.loss(0, 0, 1), 0);
        is("loss(0, 1, 1) for white", c.loss(0, 1, 1), 6);
        c.resign();
        refuses("loss(0, 0, 1)", STATE, () -> c.loss(0, 0, 1));
    }

    private static void record() {
        promise = 37;
        refuses("line()", STATE, () -> new Stonecourt().line());
        Stonecourt c = new Stonecourt();
        c.board(7, 6);
        c.handicap(3, 3);
        c.start();
        is("line()", c.line(), 0);
        moves(c, "gf -- ab");
        is("line()", c.line(), 13);
        promise = 38;
        is("the record", record(c), "W[gf]B[]W[ab]");
        refuses("sign(13)", NONE, () -> c.sign(13));
        refuses("sign(-1)", NONE, () -> c.sign(-1));
        refuses("sign(huge)", NONE, () -> c.sign(Integer.MAX_VALUE));
        refuses("sign(-1)", STATE, () -> new Stonecourt().sign(-1));
        moves(c, "-- --");
        is("the record", record(c), "W[gf]B[]W[ab]B[]W[]");
        c.undo();
        is("the record", record(c), "W[gf]B[]W[ab]B[]");
    }

    private static void sums() {
        promise = 39;
        Stonecourt c = new Stonecourt();
        is("checksum()", c.checksum(), 7L);
        c.board(2, 2);
        c.block(1, 1);
        c.start();
        is("checksum()", c.checksum(), sum(7, '.', '.', '.', '#', 0, 0, 0));
        moves(c, "ba aa");
        is("checksum()", c.checksum(), sum(7, 'w', '.', '.', '#', 0, 1, 2));
        is("checksum()", moves(on(2, 2), "aa ba bb").checksum(), sum(7, 'b', '.', '.', 'b', 1, 0, 3));
        promise = 40;
        is("fullShare()", c.fullShare(), 1f / 3f);
        refuses("fullShare()", STATE, () -> new Stonecourt().fullShare());
        is("fullShare()", moves(on(3, 3), "aa bb ba").fullShare(), 3f / 9f);
        is("fullShare() of nothing", on(3, 3).fullShare(), 0f);
        promise = 41;
        is("meanLiberties()", c.meanLiberties(), 2.0);
        refuses("meanLiberties()", STATE, () -> new Stonecourt().meanLiberties());
        refuses("meanLiberties()", ArithmeticException.class, () -> on(3, 3).meanLiberties());
        is("meanLiberties()", moves(on(3, 3), "aa bb ba").meanLiberties(), (2.0 + 3.0) / 2.0);
        is("meanLiberties()", moves(on(3, 3), "aa bb ba cc").meanLiberties(), (2.0 + 3.0 + 2.0) / 3.0);
        promise = 42;
        is("isSound()", c.isSound(), true);
        is("isSound()", new Stonecourt().isSound(), true);
        is("isSound()", twoLands().isSound(), true);
        for (int rule = 0; rule <= 2; rule++) is("isSound() behind a ko", ko(rule).isSound(), true);
    }

    /** As many calls as an object is used for, and more of them: nothing but the document's exceptions comes out. */
    private static void manyCalls() {
        promise = 19;
        Stonecourt c = new Stonecourt();
        c.board(2, 2);
        c.rule('s', 1);
        c.start();
        for (int i = 0; i < 510; i++) {
            int point = c.best(1);
            if (point < 0 || i % 2 == 1 && c.moves() % 3 == 0) {
                if (c.pass()) c.undo();
            } else {
                c.play(point % 2, point / 2);
            }
        }
        note(c.moves() > 200, "a long game has many moves, " + c.moves());
        is("isSound()", c.isSound(), true);
        int refused = 0;
        for (int i = 0; i < 3000; i++) {
            try {
                if (i % 2 == 0) c.play(i / 2 % 2, i / 4 % 2); else if (c.pass()) c.undo();
            } catch (UnsupportedOperationException | IllegalStateException e) {
                refused++;
            }
        }
        note(refused > 0 && c.isSound() && c.value(2) < 1000, "behind the 512th call");
    }

    public static void main(String[] arguments) {
        newObject();
        board();
        block();
        rule();
        komi();
        handicap();
        clock();
        start();
        play();
        pass();
        resign();
        undo();
        barred();
        turn();
        at();
        stonesAndLiberties();
        prisoners();
        movesAndOver();
        dead();
        scoreAndMargin();
        winner();
        life();
        lifeOfSeveralGroups();
        isCaught();
        influence();
        pattern();
        shape();
        think();
        periods();
        value();
        best();
        loss();
        record();
        sums();
        manyCalls();
        System.out.println(passed + " passed, " + failed + " failed");
        if (failed != 0) System.exit(1);
    }
}
