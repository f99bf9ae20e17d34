import java.lang.reflect.InvocationTargetException;
import java.lang.reflect.Method;
import java.lang.reflect.Modifier;
import java.util.ArrayList;
import java.util.HashMap;
import java.util.List;
import java.util.Map;

/**
 * Tests that stand each under the words of the document that it is about. A test is a run of calls on a new object in
 * the document's own notation: 'board(3, 3) = 25; start() = 9; play(3, 0) throws IndexOutOfBoundsException'. A call
 * without an answer must not throw, whatever it answers. 'go ba -- ab' plays at (1, 0), passes and plays at (0, 1);
 * 'looks b../...' is what at() has to return, row by row. '#65' is the char 65. Behind each call that throws Probes
 * look whether it has changed anything.
 */
abstract class Sentences {
    private static final int MOST_CALLS = 512;
    private static final Map<String, Method> FACE = new HashMap<>();

    static {
        for (Method method : Stonecourt.class.getDeclaredMethods()) {
            if (Modifier.isPublic(method.getModifiers())) FACE.put(method.getName(), method);
        }
    }

    private final Document document;
    private String part = "";
    private String words = "";
    private int checks;
    private int checksAtWords;
    private int failed;

    Sentences(Document document) {
        this.document = document;
    }

    /** Makes all tests. */
    abstract void all();

    int failures() {
        return failed;
    }

    int checks() {
        return checks;
    }

    /** Which words the tests that follow are about. */
    final void says(String key, String quoted) {
        closeWords();
        part = key;
        words = quoted;
        checksAtWords = checks;
        if (!document.quote(key, quoted)) fail("the document has no such words");
    }

    final void says(int promise, String quoted) {
        says(String.valueOf(promise), quoted);
    }

    final void closeWords() {
        if (!words.isEmpty() && checks == checksAtWords) fail("no test stands under these words");
    }

    private void fail(String what) {
        failed++;
        System.out.println("[" + part + "] " + words + "\n    " + what);
    }

    final void check(String what, Object got, Object due) {
        checks++;
        if (!got.equals(due)) fail(what + " answered " + got + ", due is " + due);
    }

    final void run(String statements) {
        Stonecourt court = new Stonecourt();
        List<String> done = new ArrayList<>();
        for (String piece : statements.replaceAll("\\s+", " ").split(";")) {
            String statement = piece.trim();
            if (statement.startsWith("go ")) {
                for (String move : statement.substring(3).split(" ")) make(court, callOf(move), done);
            } else if (statement.startsWith("looks ")) {
                looks(court, statement.substring(6), done);
            } else if (statement.contains(" throws ")) {
                int at = statement.indexOf(" throws ");
                refuses(court, statement.substring(0, at), statement.substring(at + 1), done);
            } else if (statement.contains(") = ")) {
                int at = statement.indexOf(") = ") + 1;
                String due = statement.substring(at + 3);
                String got = answer(court, statement.substring(0, at));
                check(told(done) + statement.substring(0, at), got, due.matches("'.'") ? due.substring(1, 2) : due);
                done.add(statement.substring(0, at));
            } else if (!statement.isEmpty()) {
                make(court, statement, done);
            }
        }
    }

    private static String callOf(String move) {
        if (move.equals("--")) return "pass()";
        return "play(" + (move.charAt(0) - 'a') + ", " + (move.charAt(1) - 'a') + ")";
    }

    private static String told(List<String> done) {
        return done.size() > 60 ? ".. " + done.size() + " calls ..; " : String.join("; ", done) + "; ";
    }

    private void make(Stonecourt court, String call, List<String> done) {
        String got = answer(court, call);
        done.add(call);
        if (got.startsWith("throws")) fail(told(done) + got);
    }

    private void looks(Stonecourt court, String due, List<String> done) {
        StringBuilder got = new StringBuilder();
        int y = 0;
        for (String row : due.split("/")) {
            if (y > 0) got.append('/');
            for (int x = 0; x < row.length(); x++) got.append(answer(court, "at(" + x + ", " + y + ")"));
            y++;
        }
        check(told(done) + "the board", got.toString(), due);
    }

    private void refuses(Stonecourt court, String call, String due, List<String> done) {
        check(told(done) + call, answer(court, call), due);
        for (List<String> probe : Probes.all()) {
            if (done.size() + probe.size() >= MOST_CALLS) continue;
            Stonecourt refused = new Stonecourt();
            Stonecourt twin = new Stonecourt();
            for (String one : done) {
                answer(refused, one);
                answer(twin, one);
            }
            answer(refused, call);
            for (String one : probe) {
                String got = answer(refused, one);
                String without = answer(twin, one);
                if (!got.equals(without)) {
                    fail(told(done) + call + " changes " + one + ": " + got + ", without it " + without);
                    return;
                }
            }
        }
    }

    static String answer(Stonecourt court, String call) {
        int open = call.indexOf('(');
        Method method = FACE.get(call.substring(0, open));
        String inside = call.substring(open + 1, call.length() - 1);
        String[] given = inside.isEmpty() ? new String[0] : inside.split(", ");
        Object[] arguments = new Object[given.length];
        for (int i = 0; i < given.length; i++) arguments[i] = argument(given[i]);
        try {
            return String.valueOf(method.invoke(court, arguments));
        } catch (InvocationTargetException e) {
            return "throws " + e.getCause().getClass().getSimpleName();
        } catch (IllegalAccessException e) {
            throw new IllegalStateException(call, e);
        }
    }

    private static Object argument(String given) {
        if (given.startsWith("'")) return given.charAt(1);
        if (given.startsWith("#")) return (char) Integer.parseInt(given.substring(1));
        return Integer.valueOf(given);
    }

    /** The call where no game goes on; 'before' brings a game to where the call answers, if the game goes on. */
    final void whereNoGameGoesOn(String before, String call) {
        whereNoGameWasBegun(before, call);
        String refused = call + " throws IllegalStateException; ";
        run("clock(0, 1, 9); start();" + before + "go -- --;" + refused + "undo();" + call);
        run("start();" + before + "go --; go --;" + refused + "start();" + before + call);
        run("start();" + before + "resign();" + refused + "start();" + before + call);
        run("clock(1, 0, 1); start();" + before + "think(2) = -2000;" + refused + "start();" + before + call);
    }

    /** The call where no game was begun; 'before' brings a game to where the call answers. */
    final void whereNoGameWasBegun(String before, String call) {
        run(call + " throws IllegalStateException; start(); start();" + before + call);
        run("board(2, 2);" + blockAllBut(2, 2) + "start() throws UnsupportedOperationException;" + call
            + " throws IllegalStateException; board(5, 5); start();" + before + call);
    }

    /**
     * Points that are not on a board 3 wide and 4 high, some of which have a number that is, or come to one where
     * numbers wrap around. 'rest' follows the point in the call.
     */
    final void offTheBoard(String before, String name, String rest) {
        StringBuilder calls = new StringBuilder(before);
        String[] points = {"-1, 0", "0, -1", "3, 0", "0, 4", "3, 3", "2, 4", "-1, -1", "-1, 1", "3, -1", "4, 0",
            "-3, 3", "12, 0", "0, 1431655766", "2147483647, 0", "0, 2147483647", "-2147483648, 0", "64, 0",
            "0, -2147483648", "1, -2147483648", "-2147483648, -2147483648", "2147483647, 2147483647", "5, 1", "6, 6"};
        for (String point : points) {
            calls.append(name).append('(').append(point).append(rest).append(") throws IndexOutOfBoundsException; ");
        }
        run(calls.toString());
    }

    /** Statements that block each point but these. */
    static String blockAllBut(int width, int height, String... open) {
        StringBuilder calls = new StringBuilder();
        for (int y = 0; y < height; y++) {
            for (int x = 0; x < width; x++) {
                String point = "" + (char) ('a' + x) + (char) ('a' + y);
                if (!List.of(open).contains(point)) calls.append("block(" + x + ", " + y + "); ");
            }
        }
        return calls.toString();
    }

    /** Black plays at each point but the last one, white passes between; then it is white's turn. */
    static String fillAllButLast(int width, int height) {
        StringBuilder moves = new StringBuilder("go");
        for (int i = 0; i < width * height - 1; i++) {
            moves.append(i > 0 ? " -- " : " ").append((char) ('a' + i % width)).append((char) ('a' + i / width));
        }
        return moves.append("; ").toString();
    }

    /** The sum that shape() and checksum() speak of. */
    static long sum(int... added) {
        long sum = 7;
        for (int one : added) sum = 31 * sum + one;
        return sum;
    }
}
