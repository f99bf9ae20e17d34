import java.util.NoSuchElementException;

/**
 * A court of stones. A board has 49 points at most, so a set of points is one long: bit y * width + x stands for the
 * point. All rows are made with the object and used again by each game, so that calls make nothing.
 */
public final class Stonecourt {
    private static final int LEAST_SIDE = 2;
    private static final int MOST_SIDE = 7;
    private static final int MOST_POINTS = 49;
    private static final int MOST_HANDICAPS = 9;
    private static final int MOST_KOMI = 99;
    private static final int MOST_MAIN = 3600;
    private static final int MOST_PERIODS = 5;
    private static final int MOST_LENGTH = 60;
    private static final int MOST_SECONDS = 600;
    private static final int MOST_READ = 4;
    private static final int MOST_DEPTH = 2;
    /** An object is used for 512 calls at most, so no game has more moves. */
    private static final int MOST_MOVES = 512;
    /** Above every margin: 49 points twice, and the komi. */
    private static final int ABOVE_ALL = 1000;

    private static final int PASS = -1;
    private static final int NO_CLOCKS = -1;
    private static final int TIME_IS_OUT = -2000;
    private static final int BEHIND_MAIN = 1000;

    private static final String RULES = "skapw";
    private static final int SUICIDE = 0;
    private static final int KO = 1;
    private static final int AREA = 2;
    private static final int COST = 3;
    private static final int WRAP = 4;

    private static final String THINGS = "bw.#?";
    private static final int CELLS = 9;
    private static final int CELL_ROW = 3;

    private static final char BLACK = 'b';
    private static final char WHITE = 'w';
    private static final char EMPTY = '.';
    private static final char BLOCKED = '#';
    private static final char ANYTHING = '?';
    private static final char NOBODY = '=';
    private static final char FREE = '-';

    private static final int GOES_ON = 0;
    private static final int BY_PASSES = 1;
    private static final int BY_LOSS = 2;

    private final Plan told = new Plan();
    private final Game game = new Game();
    private final Reader reader = new Reader();
    private final Pattern sought = new Pattern();
    private final Clock blackClock = new Clock();
    private final Clock whiteClock = new Clock();
    private boolean begun;
    private int end = GOES_ON;
    private boolean blackWon;
    private long deadStones;

    public Stonecourt() {
    }

    public int board(int width, int height) throws IllegalArgumentException {
        if (isBeyond(width, LEAST_SIDE, MOST_SIDE) || isBeyond(height, LEAST_SIDE, MOST_SIDE)) {
            throw new IllegalArgumentException();
        }
        int before = told.width * told.height;
        told.width = width;
        told.height = height;
        told.blocked = 0;
        told.handicaps = 0;
        return before;
    }

    public int block(int x, int y) throws IndexOutOfBoundsException, UnsupportedOperationException {
        long bit = toldBit(x, y);
        if (((told.blocked | told.handicaps) & bit) != 0) {
            throw new UnsupportedOperationException();
        }
        told.blocked |= bit;
        return Long.bitCount(told.blocked);
    }

    public int rule(char rule, int number) throws IllegalArgumentException {
        int place = RULES.indexOf(rule);
        if (place < 0 || isBeyond(number, 0, place == KO ? 2 : 1)) {
            throw new IllegalArgumentException();
        }
        int before = told.ruleAt(place);
        told.setRule(place, number);
        return before;
    }

    public int komi(int halves) throws IllegalArgumentException {
        if (isBeyond(halves, -MOST_KOMI, MOST_KOMI)) {
            throw new IllegalArgumentException();
        }
        int before = told.halves;
        told.halves = halves;
        return before;
    }

    public int handicap(int x, int y)
            throws IndexOutOfBoundsException, UnsupportedOperationException, IllegalStateException {
        long bit = toldBit(x, y);
        if (((told.blocked | told.handicaps) & bit) != 0) {
            throw new UnsupportedOperationException();
        }
        if (Long.bitCount(told.handicaps) >= MOST_HANDICAPS) {
            throw new IllegalStateException();
        }
        told.handicaps |= bit;
        return Long.bitCount(told.handicaps);
    }

    public int clock(int main, int periods, int length) throws IllegalArgumentException {
        if (isBeyond(main, 0, MOST_MAIN) || isBeyond(periods, 0, MOST_PERIODS) || isBeyond(length, 1, MOST_LENGTH)) {
            throw new IllegalArgumentException();
        }
        int before = told.mainSeconds;
        told.mainSeconds = main;
        told.periodCount = periods;
        told.periodSeconds = length;
        return before;
    }

    public int start() throws UnsupportedOperationException {
        if (!game.canBegin(told)) {
            throw new UnsupportedOperationException();
        }
        game.begin(told);
        blackClock.wind(game.plan);
        whiteClock.wind(game.plan);
        begun = true;
        end = GOES_ON;
        blackWon = false;
        deadStones = 0;
        return Long.bitCount(game.grid.open);
    }

    public int play(int x, int y)
            throws IllegalStateException, IndexOutOfBoundsException, UnsupportedOperationException {
        mustTakeMoves();
        int point = pointOf(x, y);
        if (game.judge(point) != FREE) {
            throw new UnsupportedOperationException();
        }
        clockOf(game.blackMoves()).giveBack();
        return game.advance(point);
    }

    public boolean pass() throws IllegalStateException {
        mustTakeMoves();
        clockOf(game.blackMoves()).giveBack();
        game.advanceByPass();
        if (game.hasTwoPasses()) {
            end = BY_PASSES;
            return true;
        }
        return false;
    }

    public char resign() throws IllegalStateException {
        mustGoOn();
        loseNow();
        return sideSign(blackWon);
    }

    public int undo() throws UnsupportedOperationException {
        if (!begun || end == BY_LOSS || game.count == 0) {
            throw new UnsupportedOperationException();
        }
        game.retreat();
        end = GOES_ON;
        deadStones = 0;
        return game.count;
    }

    public char barred(int x, int y) throws IllegalStateException, IndexOutOfBoundsException {
        mustGoOn();
        return game.judge(pointOf(x, y));
    }

    public char turn() throws IllegalStateException {
        mustGoOn();
        return sideSign(game.blackMoves());
    }

    public char at(int x, int y) throws IllegalStateException, IndexOutOfBoundsException {
        mustBeBegun();
        return game.look(pointOf(x, y));
    }

    public int stones(int x, int y)
            throws IllegalStateException, IndexOutOfBoundsException, NoSuchElementException {
        mustBeBegun();
        return Long.bitCount(groupOf(pointOf(x, y)));
    }

    public int liberties(int x, int y)
            throws IllegalStateException, IndexOutOfBoundsException, NoSuchElementException {
        mustBeBegun();
        long group = groupOf(pointOf(x, y));
        return Long.bitCount(game.grid.withNeighbours(group) & game.empty());
    }

    public int prisoners(char side) throws IllegalStateException, IllegalArgumentException {
        mustBeBegun();
        return game.prisonersOf(isBlack(side));
    }

    public int moves() throws IllegalStateException {
        mustBeBegun();
        return game.count;
    }

    public boolean isOver() throws IllegalStateException {
        mustBeBegun();
        return end != GOES_ON;
    }

    public int dead(int x, int y) throws IllegalStateException, IndexOutOfBoundsException, NoSuchElementException,
            UnsupportedOperationException {
        mustBeBegun();
        long group = groupOf(pointOf(x, y));
        if (end != BY_PASSES) {
            throw new UnsupportedOperationException();
        }
        deadStones ^= group;
        return Long.bitCount(deadStones);
    }

    public int score(char side) throws IllegalStateException, IllegalArgumentException {
        mustBeBegun();
        return game.scoreOf(isBlack(side), deadStones);
    }

    public int margin() throws IllegalStateException {
        mustBeBegun();
        return marginNow();
    }

    public char winner() throws IllegalStateException, NoSuchElementException {
        mustBeBegun();
        if (end == GOES_ON) {
            throw new NoSuchElementException();
        }
        if (end == BY_LOSS) {
            return sideSign(blackWon);
        }
        int ahead = marginNow();
        return ahead == 0 ? NOBODY : sideSign(ahead > 0);
    }

    public boolean isAlive(int x, int y)
            throws IllegalStateException, IndexOutOfBoundsException, NoSuchElementException {
        mustBeBegun();
        long group = groupOf(pointOf(x, y));
        long own = (group & game.blackNow()) != 0 ? game.blackNow() : game.whiteNow();
        return (group & Life.aliveOf(game.grid, own, game.empty())) != 0;
    }

    public int safe(char side) throws IllegalStateException, IllegalArgumentException {
        mustBeBegun();
        long own = isBlack(side) ? game.blackNow() : game.whiteNow();
        return Long.bitCount(Life.safeOf(game.grid, own, game.empty()));
    }

    public boolean isCaught(int x, int y, int moves) throws IllegalStateException, IndexOutOfBoundsException,
            IllegalArgumentException, NoSuchElementException {
        mustBeBegun();
        int point = pointOf(x, y);
        if (isBeyond(moves, 1, MOST_READ)) {
            throw new IllegalArgumentException();
        }
        boolean black = (groupOf(point) & game.blackNow()) != 0;
        long prey = black ? game.blackNow() : game.whiteNow();
        long hunters = black ? game.whiteNow() : game.blackNow();
        return reader.catches(game.grid, prey, hunters, 1L << point, moves);
    }

    public int influence(int x, int y) throws IllegalStateException, IndexOutOfBoundsException {
        mustBeBegun();
        int point = pointOf(x, y);
        int sum = 0;
        for (int from = 0; from < game.grid.size(); from++) {
            char there = game.look(from);
            if (there == BLACK) {
                sum += 8 >> game.grid.steps(from, point);
            } else if (there == WHITE) {
                sum -= 8 >> game.grid.steps(from, point);
            }
        }
        return sum;
    }

    public char pattern(int cell, char what) throws IndexOutOfBoundsException, IllegalArgumentException {
        if (isBeyond(cell, 0, CELLS - 1)) {
            throw new IndexOutOfBoundsException();
        }
        if (THINGS.indexOf(what) < 0) {
            throw new IllegalArgumentException();
        }
        char before = sought.cellAt(cell);
        sought.setCell(cell, what);
        return before;
    }

    public int found() throws IllegalStateException {
        mustBeBegun();
        int count = 0;
        for (int point = 0; point < game.grid.size(); point++) {
            if (game.grid.isOpen(point) && sought.isFoundAt(game, point)) {
                count++;
            }
        }
        return count;
    }

    public long shape() throws IllegalStateException {
        mustBeBegun();
        int ways = game.grid.width == game.grid.height ? Way.ALL : Way.KEEPING_WIDTH;
        long least = Way.sumOf(game, 0);
        for (int way = 1; way < ways; way++) {
            least = Math.min(least, Way.sumOf(game, way));
        }
        return least;
    }

    public int think(int seconds)
            throws IllegalStateException, IllegalArgumentException, UnsupportedOperationException {
        mustGoOn();
        if (isBeyond(seconds, 1, MOST_SECONDS)) {
            throw new IllegalArgumentException();
        }
        mustHaveClocks();
        Clock clock = clockOf(game.blackMoves());
        if (clock.runsOut(seconds)) {
            loseNow();
            return TIME_IS_OUT;
        }
        return clock.reading();
    }

    public int periods(char side)
            throws IllegalStateException, IllegalArgumentException, UnsupportedOperationException {
        mustBeBegun();
        boolean black = isBlack(side);
        mustHaveClocks();
        return clockOf(black).periodsLeft;
    }

    public int value(int depth) throws IllegalStateException, IllegalArgumentException {
        mustGoOn();
        if (isBeyond(depth, 0, MOST_DEPTH)) {
            throw new IllegalArgumentException();
        }
        return Search.worth(game, depth, ABOVE_ALL);
    }

    public int best(int depth) throws IllegalStateException, IllegalArgumentException {
        mustGoOn();
        mustBeSearchDepth(depth);
        int top = Search.worth(game, depth, ABOVE_ALL);
        for (int point = 0; point < game.grid.size(); point++) {
            if (game.judge(point) == FREE && Search.worthBy(game, point, depth, 1 - top) == top) {
                return point;
            }
        }
        return PASS;
    }

    public int loss(int x, int y, int depth) throws IllegalStateException, IndexOutOfBoundsException,
            IllegalArgumentException, UnsupportedOperationException {
        mustGoOn();
        int point = pointOf(x, y);
        mustBeSearchDepth(depth);
        if (game.judge(point) != FREE) {
            throw new UnsupportedOperationException();
        }
        int comesTo = Search.worthBy(game, point, depth, ABOVE_ALL);
        return Search.worth(game, depth, ABOVE_ALL) - comesTo;
    }

    public int line() throws IllegalStateException {
        mustBeBegun();
        int signs = 0;
        for (int move = 0; move < game.count; move++) {
            signs += game.signsOf(move);
        }
        return signs;
    }

    public char sign(int place) throws IllegalStateException, NoSuchElementException {
        mustBeBegun();
        int behind = place;
        if (behind < 0) {
            throw new NoSuchElementException();
        }
        for (int move = 0; move < game.count; move++) {
            if (behind < game.signsOf(move)) {
                return game.signOf(move, behind);
            }
            behind -= game.signsOf(move);
        }
        throw new NoSuchElementException();
    }

    public long checksum() {
        long sum = 7;
        if (!begun) {
            return sum;
        }
        for (int point = 0; point < game.grid.size(); point++) {
            sum = 31 * sum + game.look(point);
        }
        sum = 31 * sum + game.prisonersOf(true);
        sum = 31 * sum + game.prisonersOf(false);
        return 31 * sum + game.count;
    }

    public float fullShare() throws IllegalStateException {
        mustBeBegun();
        int all = Long.bitCount(game.grid.open);
        int full = Long.bitCount(game.blackNow() | game.whiteNow());
        return all == 0 ? 0 : (float) full / (float) all;
    }

    public double meanLiberties() throws IllegalStateException, ArithmeticException {
        mustBeBegun();
        int groups = 0;
        int sum = 0;
        long rest = game.blackNow() | game.whiteNow();
        for (int point = 0; point < game.grid.size(); point++) {
            if ((rest >>> point & 1) != 0) {
                long group = game.groupAt(point);
                rest &= ~group;
                groups++;
                sum += Long.bitCount(game.grid.withNeighbours(group) & game.empty());
            }
        }
        if (groups == 0) {
            throw new ArithmeticException();
        }
        return (double) sum / (double) groups;
    }

    public boolean isSound() {
        return !begun || game.allBreathe() && game.stonesAddUp() && game.comesToTheSame();
    }

    private static boolean isBeyond(int number, int least, int most) {
        return number < least || number > most;
    }

    private static char sideSign(boolean black) {
        return black ? BLACK : WHITE;
    }

    private static boolean isBlack(char side) {
        if (side != BLACK && side != WHITE) {
            throw new IllegalArgumentException();
        }
        return side == BLACK;
    }

    private static void mustBeSearchDepth(int depth) {
        if (isBeyond(depth, 1, MOST_DEPTH)) {
            throw new IllegalArgumentException();
        }
    }

    private long toldBit(int x, int y) {
        if (isBeyond(x, 0, told.width - 1) || isBeyond(y, 0, told.height - 1)) {
            throw new IndexOutOfBoundsException();
        }
        return 1L << (y * told.width + x);
    }

    private void mustBeBegun() {
        if (!begun) {
            throw new IllegalStateException();
        }
    }

    private void mustGoOn() {
        if (!begun || end != GOES_ON) {
            throw new IllegalStateException();
        }
    }

    /** A record that is full takes no more; that can only be behind the 512th call. */
    private void mustTakeMoves() {
        mustGoOn();
        if (game.count >= MOST_MOVES) {
            throw new IllegalStateException();
        }
    }

    private void mustHaveClocks() {
        if (game.plan.mainSeconds == NO_CLOCKS) {
            throw new UnsupportedOperationException();
        }
    }

    private int pointOf(int x, int y) {
        if (!game.grid.has(x, y)) {
            throw new IndexOutOfBoundsException();
        }
        return game.grid.number(x, y);
    }

    private long groupOf(int point) {
        long group = game.groupAt(point);
        if (group == 0) {
            throw new NoSuchElementException();
        }
        return group;
    }

    private Clock clockOf(boolean black) {
        return black ? blackClock : whiteClock;
    }

    private void loseNow() {
        end = BY_LOSS;
        blackWon = !game.blackMoves();
    }

    private int marginNow() {
        return 2 * (game.scoreOf(true, deadStones) - game.scoreOf(false, deadStones)) - game.plan.halves;
    }

    /** What is told ahead of games. A game has a copy of its own, so that what is told later leaves it alone. */
    private static final class Plan {
        private int width = 5;
        private int height = 5;
        private long blocked;
        private long handicaps;
        private int halves = 13;
        private int mainSeconds = NO_CLOCKS;
        private int periodCount;
        private int periodSeconds;
        private final int[] rules = new int[5];

        int ruleAt(int place) {
            return place >= 0 && place < rules.length ? rules[place] : 0;
        }

        void setRule(int place, int number) {
            if (place >= 0 && place < rules.length) {
                rules[place] = number;
            }
        }

        void copy(Plan other) {
            width = other.width;
            height = other.height;
            blocked = other.blocked;
            handicaps = other.handicaps;
            halves = other.halves;
            mainSeconds = other.mainSeconds;
            periodCount = other.periodCount;
            periodSeconds = other.periodSeconds;
            for (int place = 0; place < rules.length; place++) {
                setRule(place, other.ruleAt(place));
            }
        }
    }

    private static final class Grid {
        private int width = LEAST_SIDE;
        private int height = LEAST_SIDE;
        private boolean wraps;
        private long open;
        private long firstColumn;
        private long lastColumn;

        void lay(Plan plan) {
            width = plan.width;
            height = plan.height;
            wraps = plan.ruleAt(WRAP) == 1 && width > 2;
            open = ((1L << size()) - 1) & ~plan.blocked;
            firstColumn = 0;
            for (int y = 0; y < height; y++) {
                firstColumn |= 1L << (y * width);
            }
            lastColumn = firstColumn << (width - 1);
        }

        int size() {
            return width * height;
        }

        boolean has(int x, int y) {
            return x >= 0 && x < width && y >= 0 && y < height;
        }

        int number(int x, int y) {
            return y * width + x;
        }

        int columnOf(int point) {
            return width > 0 ? point % width : 0;
        }

        int rowOf(int point) {
            return width > 0 ? point / width : 0;
        }

        boolean isOpen(int point) {
            return (open >>> point & 1) != 0;
        }

        long withNeighbours(long some) {
            long wide = some | (some & ~lastColumn) << 1 | (some & ~firstColumn) >>> 1;
            wide |= some << width | some >>> width;
            if (wraps) {
                wide |= (some & lastColumn) >>> (width - 1) | (some & firstColumn) << (width - 1);
            }
            return wide & open;
        }

        long fill(long seeds, long room) {
            long filled = seeds & room;
            for (int step = 0; step < MOST_POINTS; step++) {
                long wider = withNeighbours(filled) & room;
                if (wider == filled) {
                    return filled;
                }
                filled = wider;
            }
            return filled;
        }

        /** One fill from all liberties at once, so that groups need not be gone through. */
        long breathing(long some, long empty) {
            return fill(withNeighbours(empty), some);
        }

        int steps(int from, int to) {
            int across = Math.abs(columnOf(from) - columnOf(to));
            if (wraps) {
                across = Math.min(across, width - across);
            }
            return across + Math.abs(rowOf(from) - rowOf(to));
        }
    }

    /** What a stone comes to; kept and filled again, as one call may try some thousand stones. */
    private static final class Strike {
        private long own;
        private long other;
        private int taken;
        private int lost;

        void put(Grid grid, long mine, long theirs, long bit) {
            long put = mine | bit;
            other = grid.breathing(theirs, grid.open & ~(put | theirs));
            taken = Long.bitCount(theirs) - Long.bitCount(other);
            long group = grid.fill(bit, put);
            boolean breathes = (grid.withNeighbours(group) & grid.open & ~(put | other)) != 0;
            own = breathes ? put : put & ~group;
            lost = breathes ? 0 : Long.bitCount(group);
        }
    }

    /**
     * The game that was begun last. All its positions are kept, for kos and for undo; what a search tries stands
     * behind them for a while, so that looking ahead needs no copies.
     */
    private static final class Game {
        private final Plan plan = new Plan();
        private final Grid grid = new Grid();
        private final Strike strike = new Strike();
        private final long[] black = new long[MOST_MOVES + MOST_DEPTH + 1];
        private final long[] white = new long[MOST_MOVES + MOST_DEPTH + 1];
        private final int[] blackPrisoners = new int[MOST_MOVES + MOST_DEPTH + 1];
        private final int[] whitePrisoners = new int[MOST_MOVES + MOST_DEPTH + 1];
        private final int[] points = new int[MOST_MOVES + MOST_DEPTH + 1];
        private final Grid trial = new Grid();
        private int count;

        boolean canBegin(Plan next) {
            trial.lay(next);
            long empty = trial.open & ~next.handicaps;
            return empty != 0 && trial.breathing(next.handicaps, empty) == next.handicaps;
        }

        void begin(Plan next) {
            plan.copy(next);
            grid.lay(plan);
            count = 0;
            keep(plan.handicaps, 0, 0, 0);
        }

        long blackAt(int position) {
            return position >= 0 && position < black.length ? black[position] : 0;
        }

        long whiteAt(int position) {
            return position >= 0 && position < white.length ? white[position] : 0;
        }

        int pointAt(int move) {
            return move >= 0 && move < points.length ? points[move] : PASS;
        }

        long blackNow() {
            return blackAt(count);
        }

        long whiteNow() {
            return whiteAt(count);
        }

        long empty() {
            return grid.open & ~(blackNow() | whiteNow());
        }

        int prisonersOf(boolean blacks) {
            int[] row = blacks ? blackPrisoners : whitePrisoners;
            return count >= 0 && count < row.length ? row[count] : 0;
        }

        boolean isByBlack(int move) {
            return (move % 2 == 0) == (plan.handicaps == 0);
        }

        boolean blackMoves() {
            return isByBlack(count);
        }

        boolean hasTwoPasses() {
            return count >= 2 && pointAt(count - 1) == PASS && pointAt(count - 2) == PASS;
        }

        char look(int point) {
            if (!grid.isOpen(point)) {
                return BLOCKED;
            }
            if ((blackNow() >>> point & 1) != 0) {
                return BLACK;
            }
            return (whiteNow() >>> point & 1) != 0 ? WHITE : EMPTY;
        }

        long groupAt(int point) {
            long bit = 1L << point;
            return grid.fill(bit, (blackNow() & bit) != 0 ? blackNow() : whiteNow());
        }

        /** The strike then holds what the move comes to, so that advance() need not find it again. */
        char judge(int point) {
            if (!grid.isOpen(point)) {
                return BLOCKED;
            }
            long bit = 1L << point;
            if ((empty() & bit) == 0) {
                return 'p';
            }
            boolean byBlack = blackMoves();
            strike.put(grid, byBlack ? blackNow() : whiteNow(), byBlack ? whiteNow() : blackNow(), bit);
            if (strike.lost == 1 || strike.lost > 1 && plan.ruleAt(SUICIDE) == 0) {
                return 's';
            }
            return repeats(count, blackBehind(byBlack), whiteBehind(byBlack)) ? 'k' : FREE;
        }

        private long blackBehind(boolean byBlack) {
            return byBlack ? strike.own : strike.other;
        }

        private long whiteBehind(boolean byBlack) {
            return byBlack ? strike.other : strike.own;
        }

        private int gainOf(boolean blacks, boolean byBlack) {
            return blacks == byBlack ? strike.taken : strike.lost;
        }

        private boolean repeats(int now, long blacks, long whites) {
            int ko = plan.ruleAt(KO);
            int last = ko == 0 ? Math.max(now - 1, 0) : 0;
            for (int position = now; position >= last; position--) {
                // players take turns, so every second position has the same player to move
                boolean counts = ko == 1 || (now - position) % 2 == 1;
                if (counts && blackAt(position) == blacks && whiteAt(position) == whites) {
                    return true;
                }
            }
            return false;
        }

        /** Only just behind judge() of this point, for it takes what the strike holds. */
        int advance(int point) {
            boolean byBlack = blackMoves();
            int blacks = prisonersOf(true) + gainOf(true, byBlack);
            int whites = prisonersOf(false) + gainOf(false, byBlack);
            noteMove(point);
            keep(blackBehind(byBlack), whiteBehind(byBlack), blacks, whites);
            return strike.taken + strike.lost;
        }

        void advanceByPass() {
            long blacks = blackNow();
            long whites = whiteNow();
            int blackGain = prisonersOf(true);
            int whiteGain = prisonersOf(false);
            noteMove(PASS);
            keep(blacks, whites, blackGain, whiteGain);
        }

        void retreat() {
            if (count > 0) {
                count--;
            }
        }

        private void noteMove(int point) {
            if (count >= 0 && count + 1 < points.length) {
                points[count] = point;
                count++;
            }
        }

        private void keep(long blacks, long whites, int byBlack, int byWhite) {
            if (count >= 0 && count < black.length && count < white.length) {
                black[count] = blacks;
                white[count] = whites;
            }
            if (count >= 0 && count < blackPrisoners.length && count < whitePrisoners.length) {
                blackPrisoners[count] = byBlack;
                whitePrisoners[count] = byWhite;
            }
        }

        /** To go through own stones does no harm: what is behind them is next to them, too. */
        private long reach(long mine, long theirs) {
            return grid.fill(mine, grid.open & ~theirs);
        }

        int scoreOf(boolean blacks, long dead) {
            long mine = (blacks ? blackNow() : whiteNow()) & ~dead;
            long theirs = (blacks ? whiteNow() : blackNow()) & ~dead;
            long held = reach(mine, theirs) & ~reach(theirs, mine);
            if (plan.ruleAt(AREA) == 1) {
                return Long.bitCount(held);
            }
            long deadOthers = (blacks ? whiteNow() : blackNow()) & dead;
            int passes = plan.ruleAt(COST) == 1 ? passesOf(!blacks) : 0;
            return Long.bitCount(held & ~mine) + prisonersOf(blacks) + Long.bitCount(deadOthers) + passes;
        }

        private int passesOf(boolean blacks) {
            int passes = 0;
            for (int move = 0; move < count; move++) {
                if (pointAt(move) == PASS && isByBlack(move) == blacks) {
                    passes++;
                }
            }
            return passes;
        }

        /** What both reach is of nobody, but falls out of the difference. */
        int standing() {
            int blacks = Long.bitCount(reach(blackNow(), whiteNow()));
            int whites = Long.bitCount(reach(whiteNow(), blackNow()));
            int ahead = 2 * (blacks - whites) - plan.halves;
            return blackMoves() ? ahead : -ahead;
        }

        int signsOf(int move) {
            return pointAt(move) == PASS ? 3 : 5;
        }

        char signOf(int move, int place) {
            if (place == 0) {
                return isByBlack(move) ? 'B' : 'W';
            }
            if (place == 1) {
                return '[';
            }
            if (place == signsOf(move) - 1) {
                return ']';
            }
            int point = pointAt(move);
            return (char) ('a' + (place == 2 ? grid.columnOf(point) : grid.rowOf(point)));
        }

        boolean allBreathe() {
            return grid.breathing(blackNow(), empty()) == blackNow()
                    && grid.breathing(whiteNow(), empty()) == whiteNow();
        }

        boolean stonesAddUp() {
            int put = Long.bitCount(plan.handicaps) + count - passesOf(true) - passesOf(false);
            int kept = Long.bitCount(blackNow()) + Long.bitCount(whiteNow());
            return put == kept + prisonersOf(true) + prisonersOf(false);
        }

        boolean comesToTheSame() {
            long blacks = plan.handicaps;
            long whites = 0;
            int blackGain = 0;
            int whiteGain = 0;
            for (int move = 0; move < count; move++) {
                if (pointAt(move) != PASS) {
                    boolean byBlack = isByBlack(move);
                    strike.put(grid, byBlack ? blacks : whites, byBlack ? whites : blacks, 1L << pointAt(move));
                    blacks = blackBehind(byBlack);
                    whites = whiteBehind(byBlack);
                    blackGain += gainOf(true, byBlack);
                    whiteGain += gainOf(false, byBlack);
                    if (repeats(move, blacks, whites)) {
                        return false;
                    }
                }
                if (blackAt(move + 1) != blacks || whiteAt(move + 1) != whites) {
                    return false;
                }
            }
            return blackGain == prisonersOf(true) && whiteGain == prisonersOf(false);
        }
    }

    private static final class Search {
        /** From enough on it stops, for then the move that led here is worse than another one, however much. */
        private static int worth(Game game, int depth, int enough) {
            if (depth <= 0 || game.hasTwoPasses()) {
                return game.standing();
            }
            game.advanceByPass();
            int top = -worth(game, depth - 1, ABOVE_ALL);
            game.retreat();
            for (int point = 0; point < game.grid.size() && top < enough; point++) {
                if (game.judge(point) == FREE) {
                    top = Math.max(top, worthBy(game, point, depth, -top));
                }
            }
            return top;
        }

        /** Only just behind judge() of this point, as advance() is. */
        private static int worthBy(Game game, int point, int depth, int enough) {
            game.advance(point);
            int comesTo = -worth(game, depth - 1, enough);
            game.retreat();
            return comesTo;
        }
    }

    private static final class Reader {
        private final Strike strike = new Strike();

        private boolean catches(Grid grid, long prey, long hunters, long seed, int moves) {
            long empty = grid.open & ~(prey | hunters);
            long free = grid.withNeighbours(grid.fill(seed, prey)) & empty;
            int liberties = Long.bitCount(free);
            if (liberties > moves || moves < 1) {
                return false;
            }
            if (liberties == 1) {
                return true;
            }
            for (int point = 0; point < grid.size(); point++) {
                long bit = 1L << point;
                if ((free & bit) != 0) {
                    strike.put(grid, hunters, prey, bit);
                    if (strike.lost == 0 && !escapes(grid, strike.other, strike.own, seed, moves - 1)) {
                        return true;
                    }
                }
            }
            return false;
        }

        private boolean escapes(Grid grid, long prey, long hunters, long seed, int moves) {
            if (!catches(grid, prey, hunters, seed, moves)) {
                return true;
            }
            long answers = answersOf(grid, prey, hunters, seed);
            for (int point = 0; point < grid.size(); point++) {
                long bit = 1L << point;
                if ((answers & bit) != 0) {
                    strike.put(grid, prey, hunters, bit);
                    if (strike.lost == 0 && !catches(grid, strike.own, strike.other, seed, moves)) {
                        return true;
                    }
                }
            }
            return false;
        }

        private static long answersOf(Grid grid, long prey, long hunters, long seed) {
            long empty = grid.open & ~(prey | hunters);
            long near = grid.withNeighbours(grid.fill(seed, prey));
            long answers = near & empty;
            long rest = near & hunters;
            for (int point = 0; point < grid.size(); point++) {
                long hunter = grid.fill(rest & 1L << point, hunters);
                long free = grid.withNeighbours(hunter) & empty;
                rest &= ~hunter;
                if (Long.bitCount(free) == 1) {
                    answers |= free;
                }
            }
            return answers;
        }
    }

    private static final class Life {
        private static long aliveOf(Grid grid, long own, long empty) {
            long staying = own;
            for (int round = 0; round < MOST_POINTS; round++) {
                long still = withTwoVital(grid, staying, areasLeft(grid, own, staying), empty);
                if (still == staying) {
                    return staying;
                }
                staying = still;
            }
            return staying;
        }

        private static long safeOf(Grid grid, long own, long empty) {
            long alive = aliveOf(grid, own, empty);
            long areas = areasLeft(grid, own, alive);
            long rest = alive;
            long safe = alive;
            for (int point = 0; point < grid.size(); point++) {
                long group = grid.fill(rest & 1L << point, alive);
                if (group != 0) {
                    rest &= ~group;
                    safe |= vitalTo(grid, group, areas, empty);
                }
            }
            return safe;
        }

        private static long areasLeft(Grid grid, long own, long staying) {
            long areas = grid.open & ~own;
            return areas & ~grid.fill(grid.withNeighbours(own & ~staying), areas);
        }

        private static long withTwoVital(Grid grid, long staying, long areas, long empty) {
            long rest = staying;
            long kept = 0;
            for (int point = 0; point < grid.size(); point++) {
                long group = grid.fill(rest & 1L << point, staying);
                if (group != 0) {
                    rest &= ~group;
                    long vital = vitalTo(grid, group, areas, empty);
                    boolean several = grid.fill(vital & -vital, vital) != vital;
                    kept |= several ? group : 0;
                }
            }
            return kept;
        }

        /** No stones stay without liberties, so each area has an empty point: one far from the group is left out. */
        private static long vitalTo(Grid grid, long group, long areas, long empty) {
            return areas & ~grid.fill(empty & ~grid.withNeighbours(group), areas);
        }
    }

    /**
     * The ways to turn and mirror a board: bit 0 mirrors the columns, bit 1 the rows, bit 2 puts columns for rows. So
     * the first four keep the width.
     */
    private static final class Way {
        private static final int ALL = 8;
        private static final int KEEPING_WIDTH = 4;

        private static int columnOf(int way, int x, int y, int width) {
            int across = (way & 4) != 0 ? y : x;
            return (way & 1) != 0 ? width - 1 - across : across;
        }

        private static int rowOf(int way, int x, int y, int height) {
            int down = (way & 4) != 0 ? x : y;
            return (way & 2) != 0 ? height - 1 - down : down;
        }

        private static long sumOf(Game game, int way) {
            int width = game.grid.width;
            int height = game.grid.height;
            long sum = 7;
            for (int y = 0; y < height; y++) {
                for (int x = 0; x < width; x++) {
                    int point = game.grid.number(columnOf(way, x, y, width), rowOf(way, x, y, height));
                    sum = 31 * sum + numberOf(game.look(point));
                }
            }
            return sum;
        }

        private static int numberOf(char there) {
            if (there == BLACK) {
                return 1;
            }
            if (there == WHITE) {
                return 2;
            }
            return there == BLOCKED ? 3 : 0;
        }
    }

    private static final class Pattern {
        private final char[] cells = new char[CELLS];

        Pattern() {
            for (int cell = 0; cell < cells.length; cell++) {
                cells[cell] = ANYTHING;
            }
        }

        char cellAt(int cell) {
            return cell >= 0 && cell < cells.length ? cells[cell] : ANYTHING;
        }

        void setCell(int cell, char what) {
            if (cell >= 0 && cell < cells.length) {
                cells[cell] = what;
            }
        }

        boolean isFoundAt(Game game, int point) {
            for (int way = 0; way < Way.ALL; way++) {
                if (fits(game, point, way)) {
                    return true;
                }
            }
            return false;
        }

        private boolean fits(Game game, int point, int way) {
            int left = game.grid.columnOf(point) - 1;
            int top = game.grid.rowOf(point) - 1;
            for (int y = 0; y < CELL_ROW; y++) {
                for (int x = 0; x < CELL_ROW; x++) {
                    int cell = Way.rowOf(way, x, y, CELL_ROW) * CELL_ROW + Way.columnOf(way, x, y, CELL_ROW);
                    char what = cellAt(cell);
                    if (what != ANYTHING && what != thingAt(game, left + x, top + y)) {
                        return false;
                    }
                }
            }
            return true;
        }

        private static char thingAt(Game game, int x, int y) {
            return game.grid.has(x, y) ? game.look(game.grid.number(x, y)) : BLOCKED;
        }
    }

    private static final class Clock {
        private int mainLeft;
        private int periodsLeft;
        private int secondsLeft;
        private int length;

        void wind(Plan plan) {
            mainLeft = plan.mainSeconds;
            periodsLeft = plan.periodCount;
            length = plan.periodSeconds;
            secondsLeft = length;
        }

        void giveBack() {
            secondsLeft = length;
        }

        boolean runsOut(int seconds) {
            for (int second = 0; second < seconds; second++) {
                if (!ticks()) {
                    return true;
                }
            }
            return false;
        }

        private boolean ticks() {
            if (mainLeft > 0) {
                mainLeft--;
                return true;
            }
            if (periodsLeft <= 0) {
                return false;
            }
            secondsLeft--;
            if (secondsLeft <= 0) {
                periodsLeft--;
                secondsLeft = length;
            }
            return true;
        }

        int reading() {
            if (mainLeft > 0) {
                return mainLeft;
            }
            return (periodsLeft > 0 ? secondsLeft : 0) - BEHIND_MAIN;
        }
    }
}
