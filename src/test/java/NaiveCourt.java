import java.util.ArrayList;
import java.util.HashSet;
import java.util.List;
import java.util.NoSuchElementException;
import java.util.Set;
import java.util.TreeSet;

/**
 * The document once more, word by word and without care for speed: sets of points, texts for positions, whole trees.
 * AgainstNaive compares Stonecourt with it.
 */
public final class NaiveCourt {
    private int toldWidth = 5;
    private int toldHeight = 5;
    private Set<Integer> toldBlocked = new TreeSet<>();
    private Set<Integer> toldHandicaps = new TreeSet<>();
    private int toldS, toldK, toldA, toldP, toldW;
    private int toldKomi = 13;
    private int[] toldClock;
    private final char[][] pattern = {{'?', '?', '?'}, {'?', '?', '?'}, {'?', '?', '?'}};
    private Play play;

    /** A game; copied whole to look ahead. */
    private static final class Play {
        int width, height, s, k, a, p, w, komi;
        boolean blackFirst;
        int handicaps;
        List<String> positions = new ArrayList<>();
        List<Integer> moves = new ArrayList<>();
        List<int[]> prisoners = new ArrayList<>();
        Set<Integer> dead = new TreeSet<>();
        int[] clock;
        int[][] left;
        boolean over;
        char lostWinner;

        Play copy() {
            Play c = new Play();
            c.width = width; c.height = height; c.s = s; c.k = k; c.a = a; c.p = p; c.w = w; c.komi = komi;
            c.blackFirst = blackFirst; c.handicaps = handicaps;
            c.positions.addAll(positions);
            c.moves.addAll(moves);
            c.prisoners.addAll(prisoners);
            c.clock = clock;
            c.left = left == null ? null : new int[][] {left[0].clone(), left[1].clone()};
            c.over = over;
            c.lostWinner = lostWinner;
            return c;
        }

        String now() {
            return positions.get(positions.size() - 1);
        }

        char moverOf(int index) {
            return (index % 2 == 0) == blackFirst ? 'b' : 'w';
        }

        char turn() {
            return moverOf(moves.size());
        }

        Set<Integer> neighbours(int point) {
            Set<Integer> set = new TreeSet<>();
            int x = point % width;
            int y = point / width;
            if (x > 0) set.add(point - 1);
            if (x < width - 1) set.add(point + 1);
            if (y > 0) set.add(point - width);
            if (y < height - 1) set.add(point + width);
            if (w == 1 && width >= 3) {
                if (x == 0) set.add(y * width + width - 1);
                if (x == width - 1) set.add(y * width);
            }
            return set;
        }

        /** All points that hang together with the point by points that have one of these signs. */
        Set<Integer> together(String board, int point, String signs) {
            Set<Integer> set = new TreeSet<>();
            List<Integer> todo = new ArrayList<>();
            if (signs.indexOf(board.charAt(point)) >= 0) todo.add(point);
            while (!todo.isEmpty()) {
                int next = todo.remove(todo.size() - 1);
                if (!set.add(next)) continue;
                for (int n : neighbours(next)) if (signs.indexOf(board.charAt(n)) >= 0) todo.add(n);
            }
            return set;
        }

        List<Set<Integer>> parts(String board, String signs) {
            List<Set<Integer>> all = new ArrayList<>();
            Set<Integer> seen = new HashSet<>();
            for (int p = 0; p < board.length(); p++) {
                if (signs.indexOf(board.charAt(p)) < 0 || seen.contains(p)) continue;
                Set<Integer> part = together(board, p, signs);
                seen.addAll(part);
                all.add(part);
            }
            return all;
        }

        Set<Integer> nextTo(Set<Integer> some) {
            Set<Integer> set = new TreeSet<>();
            for (int p : some) set.addAll(neighbours(p));
            set.removeAll(some);
            return set;
        }

        Set<Integer> liberties(String board, Set<Integer> group) {
            Set<Integer> set = new TreeSet<>();
            for (int n : nextTo(group)) if (board.charAt(n) == '.') set.add(n);
            return set;
        }

        static String with(String board, Set<Integer> points, char sign) {
            StringBuilder b = new StringBuilder(board);
            for (int p : points) b.setCharAt(p, sign);
            return b.toString();
        }

        /** The board behind a stone, or the letter 's' where it is suicide that the rule bars. */
        String behind(String board, int point, char mover, boolean suicide) {
            String next = with(board, Set.of(point), mover);
            char other = mover == 'b' ? 'w' : 'b';
            String taken = next;
            for (Set<Integer> g : parts(next, "" + other)) if (liberties(next, g).isEmpty()) taken = with(taken, g, '.');
            Set<Integer> own = together(taken, point, "" + mover);
            if (!liberties(taken, own).isEmpty()) return taken;
            if (!suicide || own.size() == 1) return "s";
            return with(taken, own, '.');
        }

        char barred(int point) {
            if (now().charAt(point) == '#') return '#';
            if (now().charAt(point) != '.') return 'p';
            String next = behind(now(), point, turn(), s == 1);
            if (next.equals("s")) return 's';
            int n = positions.size();
            if (k == 0 && n >= 2 && positions.get(n - 2).equals(next)) return 'k';
            if (k == 1 && positions.contains(next)) return 'k';
            if (k == 2) {
                char toMove = turn() == 'b' ? 'w' : 'b';
                for (int i = 0; i < n; i++) if (moverOf(i) == toMove && positions.get(i).equals(next)) return 'k';
            }
            return '-';
        }

        static int count(String board, char sign) {
            int c = 0;
            for (char x : board.toCharArray()) if (x == sign) c++;
            return c;
        }

        int doMove(int point) {
            char mover = turn();
            char other = mover == 'b' ? 'w' : 'b';
            String before = now();
            String next = behind(before, point, mover, s == 1);
            int tookOthers = count(before, other) - count(next, other);
            int lostOwn = count(before, mover) + 1 - count(next, mover);
            int[] had = prisoners.get(prisoners.size() - 1);
            int[] has = had.clone();
            has[mover == 'b' ? 0 : 1] += tookOthers;
            has[mover == 'b' ? 1 : 0] += lostOwn;
            positions.add(next);
            prisoners.add(has);
            moves.add(point);
            return tookOthers + lostOwn;
        }

        boolean doPass() {
            positions.add(now());
            prisoners.add(prisoners.get(prisoners.size() - 1));
            moves.add(-1);
            int n = moves.size();
            if (n >= 2 && moves.get(n - 2) == -1) over = true;
            return over;
        }

        int score(char side, boolean area) {
            char other = side == 'b' ? 'w' : 'b';
            StringBuilder b = new StringBuilder(now());
            int deadOthers = 0;
            for (int d : dead) {
                if (b.charAt(d) == other) deadOthers++;
                b.setCharAt(d, '.');
            }
            String board = b.toString();
            int regions = 0;
            for (Set<Integer> r : parts(board, ".")) {
                boolean own = false;
                boolean others = false;
                for (int n : nextTo(r)) {
                    own |= board.charAt(n) == side;
                    others |= board.charAt(n) == other;
                }
                if (own && !others) regions += r.size();
            }
            if (area) return count(board, side) + regions;
            int sum = regions + prisoners.get(prisoners.size() - 1)[side == 'b' ? 0 : 1] + deadOthers;
            if (p == 1) {
                for (int i = 0; i < moves.size(); i++) if (moves.get(i) == -1 && moverOf(i) == other) sum++;
            }
            return sum;
        }

        int margin(boolean area) {
            return 2 * (score('b', area) - score('w', area)) - komi;
        }

        /** The margin by area behind so many moves, black's or white's greatest good. */
        int ahead(int depth) {
            if (depth == 0 || over) return margin(true);
            List<Integer> all = new ArrayList<>();
            for (int q = -1; q < width * height; q++) if (q == -1 || barred(q) == '-') all.add(aheadBy(q, depth));
            int best = all.get(0);
            for (int v : all) if (turn() == 'b' ? v > best : v < best) best = v;
            return best;
        }

        int aheadBy(int point, int depth) {
            Play c = copy();
            c.dead.clear();
            if (point == -1) c.doPass(); else c.doMove(point);
            return c.ahead(depth - 1);
        }

        boolean vital(String board, Set<Integer> area, Set<Integer> group) {
            Set<Integer> free = liberties(board, group);
            for (int q : area) if (board.charAt(q) == '.' && !free.contains(q)) return false;
            return true;
        }

        /** The groups that stay, then the areas that stay, with the groups' number first. */
        void life(char side, List<Set<Integer>> groups, List<Set<Integer>> areas) {
            String board = now();
            groups.addAll(parts(board, "" + side));
            areas.addAll(parts(board, side == 'b' ? ".w" : ".b"));
            boolean again = true;
            while (again) {
                again = false;
                List<Set<Integer>> leave = new ArrayList<>();
                for (Set<Integer> g : groups) {
                    int vitals = 0;
                    for (Set<Integer> a : areas) if (vital(board, a, g)) vitals++;
                    if (vitals < 2) leave.add(g);
                }
                for (Set<Integer> g : leave) {
                    again = true;
                    groups.remove(g);
                    Set<Integer> near = nextTo(g);
                    areas.removeIf(a -> a.stream().anyMatch(near::contains));
                }
            }
        }

        boolean caught(String board, int point, int moves) {
            char prey = board.charAt(point);
            char hunter = prey == 'b' ? 'w' : 'b';
            Set<Integer> group = together(board, point, "" + prey);
            Set<Integer> free = liberties(board, group);
            if (moves < 1) return false;
            if (free.size() == 1) return true;
            if (free.size() > moves) return false;
            for (int m : free) {
                String next = behind(board, m, hunter, false);
                if (!next.equals("s") && !hasAnswer(next, point, moves - 1)) return true;
            }
            return false;
        }

        boolean hasAnswer(String board, int point, int moves) {
            char prey = board.charAt(point);
            char hunter = prey == 'b' ? 'w' : 'b';
            Set<Integer> group = together(board, point, "" + prey);
            Set<Integer> answers = new TreeSet<>(liberties(board, group));
            for (int n : nextTo(group)) {
                if (board.charAt(n) != hunter) continue;
                Set<Integer> free = liberties(board, together(board, n, "" + hunter));
                if (free.size() == 1) answers.addAll(free);
            }
            if (!caught(board, point, moves)) return true;
            for (int m : answers) {
                String next = behind(board, m, prey, false);
                if (!next.equals("s") && !caught(next, point, moves)) return true;
            }
            return false;
        }

        String record() {
            StringBuilder b = new StringBuilder();
            for (int i = 0; i < moves.size(); i++) {
                b.append(moverOf(i) == 'b' ? 'B' : 'W').append('[');
                int m = moves.get(i);
                if (m != -1) b.append((char) ('a' + m % width)).append((char) ('a' + m / width));
                b.append(']');
            }
            return b.toString();
        }
    }

    private void begun() {
        if (play == null) throw new IllegalStateException();
    }

    private void goesOn() {
        if (play == null || play.over) throw new IllegalStateException();
    }

    private int point(int x, int y) {
        if (x < 0 || y < 0 || x >= play.width || y >= play.height) throw new IndexOutOfBoundsException();
        return y * play.width + x;
    }

    private int toldPoint(int x, int y) {
        if (x < 0 || y < 0 || x >= toldWidth || y >= toldHeight) throw new IndexOutOfBoundsException();
        return y * toldWidth + x;
    }

    private Set<Integer> group(int point) {
        char sign = play.now().charAt(point);
        if (sign != 'b' && sign != 'w') throw new NoSuchElementException();
        return play.together(play.now(), point, "" + sign);
    }

    private static int side(char side) {
        if (side == 'b') return 0;
        if (side == 'w') return 1;
        throw new IllegalArgumentException();
    }

    public int board(int width, int height) {
        if (width < 2 || width > 7 || height < 2 || height > 7) throw new IllegalArgumentException();
        int before = toldWidth * toldHeight;
        toldWidth = width;
        toldHeight = height;
        toldBlocked = new TreeSet<>();
        toldHandicaps = new TreeSet<>();
        return before;
    }

    public int block(int x, int y) {
        int p = toldPoint(x, y);
        if (toldBlocked.contains(p) || toldHandicaps.contains(p)) throw new UnsupportedOperationException();
        toldBlocked.add(p);
        return toldBlocked.size();
    }

    public int rule(char rule, int number) {
        int before;
        int most = rule == 'k' ? 2 : 1;
        if ("skapw".indexOf(rule) < 0 || number < 0 || number > most) throw new IllegalArgumentException();
        if (rule == 's') { before = toldS; toldS = number; }
        else if (rule == 'k') { before = toldK; toldK = number; }
        else if (rule == 'a') { before = toldA; toldA = number; }
        else if (rule == 'p') { before = toldP; toldP = number; }
        else { before = toldW; toldW = number; }
        return before;
    }

    public int komi(int halves) {
        if (halves < -99 || halves > 99) throw new IllegalArgumentException();
        int before = toldKomi;
        toldKomi = halves;
        return before;
    }

    public int handicap(int x, int y) {
        int p = toldPoint(x, y);
        if (toldBlocked.contains(p) || toldHandicaps.contains(p)) throw new UnsupportedOperationException();
        if (toldHandicaps.size() == 9) throw new IllegalStateException();
        toldHandicaps.add(p);
        return toldHandicaps.size();
    }

    public int clock(int main, int periods, int length) {
        if (main < 0 || main > 3600 || periods < 0 || periods > 5 || length < 1 || length > 60) {
            throw new IllegalArgumentException();
        }
        int before = toldClock == null ? -1 : toldClock[0];
        toldClock = new int[] {main, periods, length};
        return before;
    }

    public int start() {
        Play g = new Play();
        g.width = toldWidth; g.height = toldHeight;
        g.s = toldS; g.k = toldK; g.a = toldA; g.p = toldP; g.w = toldW; g.komi = toldKomi;
        g.blackFirst = toldHandicaps.isEmpty();
        g.handicaps = toldHandicaps.size();
        StringBuilder b = new StringBuilder();
        for (int p = 0; p < g.width * g.height; p++) {
            b.append(toldBlocked.contains(p) ? '#' : toldHandicaps.contains(p) ? 'b' : '.');
        }
        String board = b.toString();
        for (Set<Integer> h : g.parts(board, "b")) {
            if (g.liberties(board, h).isEmpty()) throw new UnsupportedOperationException();
        }
        if (board.indexOf('.') < 0) throw new UnsupportedOperationException();
        g.positions.add(board);
        g.prisoners.add(new int[2]);
        if (toldClock != null) {
            g.clock = toldClock.clone();
            g.left = new int[][] {{g.clock[0], g.clock[1], g.clock[2]}, {g.clock[0], g.clock[1], g.clock[2]}};
        }
        play = g;
        return g.width * g.height - toldBlocked.size();
    }

    private void giveBack() {
        if (play.clock != null) play.left[side(play.turn())][2] = play.clock[2];
    }

    public int play(int x, int y) {
        goesOn();
        int p = point(x, y);
        if (play.barred(p) != '-') throw new UnsupportedOperationException();
        giveBack();
        return play.doMove(p);
    }

    public boolean pass() {
        goesOn();
        giveBack();
        return play.doPass();
    }

    public char resign() {
        goesOn();
        play.lostWinner = play.turn() == 'b' ? 'w' : 'b';
        play.over = true;
        return play.lostWinner;
    }

    public int undo() {
        if (play == null || play.moves.isEmpty() || play.lostWinner != 0) throw new UnsupportedOperationException();
        play.moves.remove(play.moves.size() - 1);
        play.positions.remove(play.positions.size() - 1);
        play.prisoners.remove(play.prisoners.size() - 1);
        play.over = false;
        play.dead.clear();
        return play.moves.size();
    }

    public char barred(int x, int y) {
        goesOn();
        return play.barred(point(x, y));
    }

    public char turn() {
        goesOn();
        return play.turn();
    }

    public char at(int x, int y) {
        begun();
        return play.now().charAt(point(x, y));
    }

    public int stones(int x, int y) {
        begun();
        return group(point(x, y)).size();
    }

    public int liberties(int x, int y) {
        begun();
        return play.liberties(play.now(), group(point(x, y))).size();
    }

    public int prisoners(char side) {
        begun();
        return play.prisoners.get(play.prisoners.size() - 1)[side(side)];
    }

    public int moves() {
        begun();
        return play.moves.size();
    }

    public boolean isOver() {
        begun();
        return play.over;
    }

    public int dead(int x, int y) {
        begun();
        Set<Integer> g = group(point(x, y));
        if (!play.over || play.lostWinner != 0) throw new UnsupportedOperationException();
        if (!play.dead.removeAll(g)) play.dead.addAll(g);
        return play.dead.size();
    }

    public int score(char side) {
        begun();
        side(side);
        return play.score(side, play.a == 1);
    }

    public int margin() {
        begun();
        return play.margin(play.a == 1);
    }

    public char winner() {
        begun();
        if (!play.over) throw new NoSuchElementException();
        if (play.lostWinner != 0) return play.lostWinner;
        int m = margin();
        return m > 0 ? 'b' : m < 0 ? 'w' : '=';
    }

    public boolean isAlive(int x, int y) {
        begun();
        Set<Integer> g = group(point(x, y));
        List<Set<Integer>> groups = new ArrayList<>();
        play.life(at(x, y), groups, new ArrayList<>());
        return groups.contains(g);
    }

    public int safe(char side) {
        begun();
        side(side);
        List<Set<Integer>> groups = new ArrayList<>();
        List<Set<Integer>> areas = new ArrayList<>();
        play.life(side, groups, areas);
        Set<Integer> safe = new TreeSet<>();
        for (Set<Integer> g : groups) {
            safe.addAll(g);
            for (Set<Integer> a : areas) if (play.vital(play.now(), a, g)) safe.addAll(a);
        }
        return safe.size();
    }

    public boolean isCaught(int x, int y, int moves) {
        begun();
        int p = point(x, y);
        if (moves < 1 || moves > 4) throw new IllegalArgumentException();
        group(p);
        return play.caught(play.now(), p, moves);
    }

    public int influence(int x, int y) {
        begun();
        point(x, y);
        int sum = 0;
        for (int p = 0; p < play.width * play.height; p++) {
            int dx = Math.abs(p % play.width - x);
            if (play.w == 1 && play.width >= 3) dx = Math.min(dx, play.width - dx);
            int gives = 8;
            for (int i = dx + Math.abs(p / play.width - y); i > 0; i--) gives /= 2;
            char c = play.now().charAt(p);
            sum += c == 'b' ? gives : c == 'w' ? -gives : 0;
        }
        return sum;
    }

    public char pattern(int cell, char what) {
        if (cell < 0 || cell > 8) throw new IndexOutOfBoundsException();
        if ("bw.#?".indexOf(what) < 0) throw new IllegalArgumentException();
        char before = pattern[cell / 3][cell % 3];
        pattern[cell / 3][cell % 3] = what;
        return before;
    }

    private static char[][] quarter(char[][] b) {
        char[][] t = new char[b[0].length][b.length];
        for (int y = 0; y < b.length; y++) for (int x = 0; x < b[0].length; x++) t[x][b.length - 1 - y] = b[y][x];
        return t;
    }

    private static char[][] mirror(char[][] b) {
        char[][] t = new char[b.length][b[0].length];
        for (int y = 0; y < b.length; y++) for (int x = 0; x < b[0].length; x++) t[y][b[0].length - 1 - x] = b[y][x];
        return t;
    }

    private static List<char[][]> allWays(char[][] b) {
        List<char[][]> all = new ArrayList<>();
        char[][] c = b;
        for (int i = 0; i < 4; i++) {
            all.add(c);
            all.add(mirror(c));
            c = quarter(c);
        }
        return all;
    }

    public int found() {
        begun();
        int count = 0;
        for (int p = 0; p < play.width * play.height; p++) {
            if (play.now().charAt(p) == '#') continue;
            boolean any = false;
            for (char[][] way : allWays(pattern)) any |= fits(way, p);
            if (any) count++;
        }
        return count;
    }

    private boolean fits(char[][] way, int p) {
        for (int j = 0; j < 3; j++) {
            for (int i = 0; i < 3; i++) {
                int x = p % play.width + i - 1;
                int y = p / play.width + j - 1;
                boolean on = x >= 0 && y >= 0 && x < play.width && y < play.height;
                char there = on ? play.now().charAt(y * play.width + x) : '#';
                if (way[j][i] != '?' && way[j][i] != there) return false;
            }
        }
        return true;
    }

    public long shape() {
        begun();
        char[][] b = new char[play.height][play.width];
        for (int p = 0; p < play.width * play.height; p++) b[p / play.width][p % play.width] = play.now().charAt(p);
        long least = Long.MAX_VALUE;
        for (char[][] way : allWays(b)) {
            if (way.length != play.height) continue;
            long sum = 7;
            for (char[] row : way) for (char c : row) sum = 31 * sum + (c == 'b' ? 1 : c == 'w' ? 2 : c == '#' ? 3 : 0);
            if (sum < least) least = sum;
        }
        return least;
    }

    public int think(int seconds) {
        goesOn();
        if (seconds < 1 || seconds > 600) throw new IllegalArgumentException();
        if (play.clock == null) throw new UnsupportedOperationException();
        int[] left = play.left[side(play.turn())];
        int rest = seconds;
        int offMain = Math.min(rest, left[0]);
        left[0] -= offMain;
        rest -= offMain;
        while (rest > 0 && left[1] > 0) {
            if (rest < left[2]) {
                left[2] -= rest;
                rest = 0;
            } else {
                rest -= left[2];
                left[1]--;
                left[2] = play.clock[2];
            }
        }
        if (rest > 0) {
            play.lostWinner = play.turn() == 'b' ? 'w' : 'b';
            play.over = true;
            return -2000;
        }
        if (left[0] > 0) return left[0];
        return left[1] > 0 ? left[2] - 1000 : -1000;
    }

    public int periods(char side) {
        begun();
        side(side);
        if (play.clock == null) throw new UnsupportedOperationException();
        return play.left[side(side)][1];
    }

    private int sign() {
        return play.turn() == 'b' ? 1 : -1;
    }

    public int value(int depth) {
        goesOn();
        if (depth < 0 || depth > 2) throw new IllegalArgumentException();
        return sign() * play.ahead(depth);
    }

    public int best(int depth) {
        goesOn();
        if (depth < 1 || depth > 2) throw new IllegalArgumentException();
        int value = value(depth);
        for (int p = 0; p < play.width * play.height; p++) {
            if (play.barred(p) == '-' && sign() * play.aheadBy(p, depth) == value) return p;
        }
        return -1;
    }

    public int loss(int x, int y, int depth) {
        goesOn();
        int p = point(x, y);
        if (depth < 1 || depth > 2) throw new IllegalArgumentException();
        if (play.barred(p) != '-') throw new UnsupportedOperationException();
        return value(depth) - sign() * play.aheadBy(p, depth);
    }

    public int line() {
        begun();
        return play.record().length();
    }

    public char sign(int place) {
        begun();
        String record = play.record();
        if (place < 0 || place >= record.length()) throw new NoSuchElementException();
        return record.charAt(place);
    }

    public long checksum() {
        long sum = 7;
        if (play == null) return sum;
        for (char c : play.now().toCharArray()) sum = 31 * sum + c;
        int[] has = play.prisoners.get(play.prisoners.size() - 1);
        sum = 31 * sum + has[0];
        sum = 31 * sum + has[1];
        return 31 * sum + play.moves.size();
    }

    public float fullShare() {
        begun();
        int full = Play.count(play.now(), 'b') + Play.count(play.now(), 'w');
        return (float) full / (float) (full + Play.count(play.now(), '.'));
    }

    public double meanLiberties() {
        begun();
        List<Set<Integer>> groups = new ArrayList<>(play.parts(play.now(), "b"));
        groups.addAll(play.parts(play.now(), "w"));
        if (groups.isEmpty()) throw new ArithmeticException();
        int sum = 0;
        for (Set<Integer> g : groups) sum += play.liberties(play.now(), g).size();
        return (double) sum / (double) groups.size();
    }

    /** A court whose calls are right is sound at all times. */
    public boolean isSound() {
        return true;
    }
}
