import java.util.ArrayList;
import java.util.List;

/**
 * Long runs of calls that ask for all that a court holds, or bring it out: what stands on the board, the record back to
 * its beginning, clocks second by second, what was told for later games. Two courts that answer all of them alike are
 * alike. Each of the runs is for a court of its own, which it leaves changed.
 */
final class Probes {
    private static final int SIDE = 7;

    private Probes() {
    }

    static List<List<String>> all() {
        return List.of(points(), reading(), whole(), back(), deadOnes(), end(), clocks(), told(), pattern());
    }

    private static void atEachPoint(List<String> calls, String name, String rest) {
        for (int y = 0; y < SIDE; y++) {
            for (int x = 0; x < SIDE; x++) calls.add(name + "(" + x + ", " + y + rest + ")");
        }
    }

    private static List<String> points() {
        List<String> calls = new ArrayList<>();
        for (String name : "at stones liberties barred isAlive influence".split(" ")) atEachPoint(calls, name, "");
        return calls;
    }

    private static List<String> reading() {
        List<String> calls = new ArrayList<>();
        for (int moves = 1; moves <= 4; moves++) atEachPoint(calls, "isCaught", ", " + moves);
        atEachPoint(calls, "loss", ", 1");
        return calls;
    }

    private static List<String> whole() {
        List<String> calls = new ArrayList<>(List.of("moves()", "isOver()", "turn()", "checksum()", "score('b')",
            "score('w')", "margin()", "winner()", "prisoners('b')", "prisoners('w')", "periods('b')", "periods('w')",
            "safe('b')", "safe('w')", "found()", "shape()", "value(0)", "value(1)", "value(2)", "best(1)", "best(2)",
            "fullShare()", "meanLiberties()", "isSound()", "line()"));
        for (int place = 0; place < 120; place++) calls.add("sign(" + place + ")");
        return calls;
    }

    private static List<String> back() {
        List<String> calls = new ArrayList<>();
        for (int i = 0; i < 60; i++) calls.addAll(List.of("undo()", "checksum()", "turn()", "shape()"));
        return calls;
    }

    private static List<String> deadOnes() {
        List<String> calls = new ArrayList<>(List.of("pass()", "pass()", "isOver()", "score('b')", "score('w')"));
        atEachPoint(calls, "dead", "");
        calls.addAll(List.of("score('b')", "score('w')", "winner()", "undo()", "score('b')", "value(1)"));
        return calls;
    }

    private static List<String> end() {
        List<String> calls = new ArrayList<>();
        atEachPoint(calls, "play", "");
        calls.addAll(List.of("checksum()", "resign()", "winner()", "isOver()", "undo()"));
        return calls;
    }

    private static List<String> clocks() {
        List<String> calls = new ArrayList<>();
        for (int i = 0; i < 3; i++) {
            calls.addAll(List.of("think(1)", "periods('b')", "periods('w')", "pass()", "undo()"));
        }
        calls.add("pass()");
        for (int i = 0; i < 70; i++) calls.addAll(List.of("think(1)", "periods('b')", "periods('w')"));
        for (int i = 0; i < 8; i++) calls.addAll(List.of("think(600)", "periods('b')", "periods('w')"));
        calls.add("winner()");
        return calls;
    }

    private static List<String> told() {
        List<String> calls = new ArrayList<>(List.of("start()", "turn()", "margin()", "think(1)", "think(600)"));
        atEachPoint(calls, "at", "");
        for (char rule : "skapw".toCharArray()) calls.add("rule('" + rule + "', 0)");
        calls.addAll(List.of("komi(0)", "clock(0, 0, 1)"));
        atEachPoint(calls, "handicap", "");
        atEachPoint(calls, "block", "");
        calls.addAll(List.of("board(2, 2)", "start()"));
        return calls;
    }

    private static List<String> pattern() {
        List<String> calls = new ArrayList<>(List.of("found()"));
        for (int cell = 0; cell < 9; cell++) calls.add("pattern(" + cell + ", '?')");
        calls.addAll(List.of("found()", "start()", "found()"));
        return calls;
    }
}
