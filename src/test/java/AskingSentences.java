/** The promises 15 to 42, sentence by sentence: what is asked of a game, its clocks, its record, and what is best. */
final class AskingSentences extends Sentences {
    /** Two points, (0, 0) and (1, 0), for nothing. */
    private static final String TWO_POINTS = "board(2, 2); block(0, 1); block(1, 1); komi(0); ";
    /** Three points in a row, (0, 1), (0, 0) and (1, 0), for nothing. */
    private static final String ROW_OF_THREE = "board(2, 2); block(1, 1); komi(0); ";
    private static final String WRONG_SIDES = "'x' 'B' 'W' '.' '=' #0 #65535 #354";

    AskingSentences(Document document) {
        super(document);
    }

    @Override
    void all() {
        at();
        stones();
        liberties();
        prisoners();
        moves();
        isOver();
        dead();
        deadRefused();
        score();
        margin();
        winner();
        isAlive();
        safe();
        isCaught();
        influence();
        pattern();
        found();
        shape();
        think();
        thinkRefused();
        periods();
        value();
        best();
        loss();
        lossRefused();
        line();
        sign();
        checksum();
        fullShare();
        meanLiberties();
        isSound();
        closeWords();
    }

    /** In 'call' the '$' stands for the side; 'before' brings a game to where the call answers. */
    private void noSuchSide(String before, String call) {
        StringBuilder calls = new StringBuilder(before);
        for (String side : WRONG_SIDES.split(" ")) {
            calls.append(call.replace("$", side)).append(" throws IllegalArgumentException; ");
        }
        run(calls + call.replace("$", "'b'") + ";" + call.replace("$", "'w'"));
        run(call.replace("$", "'x'") + " throws IllegalStateException");
    }

    /** On points without a stone: empty ones, blocked ones, and those whose stone was taken. */
    private void noStone(String name, String rest) {
        String none = rest + ") throws NoSuchElementException; ";
        run("board(2, 2); block(1, 1); start();" + name + "(0, 0" + none + name + "(1, 1" + none + "go aa;" + name
            + "(0, 1" + none + name + "(1, 1" + none + "undo();" + name + "(0, 0" + none);
        run("board(2, 2); start(); go aa ba -- ab;" + name + "(0, 0" + none + name + "(1, 1" + none);
    }

    private void at() {
        says(15, "Returns what is at a point of the game that was begun last.");
        run("board(2, 3); block(1, 2); start(); go ab bb; looks ../bw/.#; board(7, 7); looks ../bw/.#; start();"
            + "at(6, 6) = '.'; at(0, 1) = '.'");
        run("start(); go aa; resign(); at(0, 0) = 'b'; start(); at(0, 0) = '.'; go -- --; at(0, 0) = '.'");

        says(15, "Returns 'b', 'w', '#' or '.'.");
        run("board(7, 7); block(6, 5); start(); go gg ag; at(6, 6) = 'b'; at(0, 6) = 'w'; at(6, 5) = '#';"
            + "at(5, 5) = '.'");
        run("start(); go aa -- --; dead(0, 0) = 1; at(0, 0) = 'b'");

        says(15, "Throws `IllegalStateException` if no game was begun");
        whereNoGameWasBegun("", "at(0, 0)");
        run("at(9, 9) throws IllegalStateException");

        says(15, "Throws `IndexOutOfBoundsException` if there is no such point on the board of the game");
        offTheBoard("board(3, 4); start(); go aa; board(7, 7);", "at", "");
        run("board(3, 4); start(); board(2, 2); at(2, 3) = '.'; at(0, 0) = '.'; at(2, 0) = '.'; at(0, 3) = '.';"
            + "resign(); at(3, 3) throws IndexOutOfBoundsException");
    }

    private void stones() {
        says(16, "Returns how many stones a group has.");
        run("board(4, 3); rule('w', 1); start(); go aa bb ba ca ab dc; stones(0, 0) = 3; stones(1, 1) = 1;"
            + "stones(2, 0) = 1; go da; stones(3, 0) = 4; stones(0, 0) = 4; resign(); stones(0, 1) = 4");

        says(16, "Returns how many.");
        run("start(); go aa; stones(0, 0) = 1; go bb ab; stones(0, 0) = 2; stones(0, 1) = 2; stones(1, 1) = 1; undo();"
            + "stones(0, 0) = 1; go -- --; dead(0, 0) = 1; stones(0, 0) = 1");
        run("board(7, 7); start();" + fillAllButLast(7, 7) + "stones(0, 0) = 48; stones(5, 6) = 48");

        says(16, "Throws `IllegalStateException` if no game was begun");
        whereNoGameWasBegun("go aa;", "stones(0, 0)");
        run("stones(9, 9) throws IllegalStateException");

        says(16, "Throws `IndexOutOfBoundsException` if there is no such point on the board of the game");
        offTheBoard("board(3, 4); start(); go aa; board(7, 7);", "stones", "");

        says(16, "Throws `NoSuchElementException` if there is no stone");
        noStone("stones", "");
    }

    private void liberties() {
        says(17, "Returns how many liberties a group has.");
        run("board(4, 3); block(1, 2); rule('w', 1); start(); go aa bb ba ca ab dc; liberties(0, 0) = 3;"
            + "liberties(1, 1) = 1; liberties(3, 2) = 3; resign(); liberties(1, 1) = 1");

        says(17, "Returns how many.");
        run("start(); go aa; liberties(0, 0) = 2; go ba; liberties(0, 0) = 1; liberties(1, 0) = 2; undo();"
            + "liberties(0, 0) = 2; go -- cc; liberties(2, 2) = 4");
        run("board(7, 7); start();" + fillAllButLast(7, 7) + "liberties(0, 0) = 1; liberties(6, 5) = 1");
        // three rows that hang together by a column
        run("board(7, 7); start(); go ab -- bb -- cb -- db -- eb -- fb -- gb -- dc -- dd -- ad -- bd -- cd -- ed --"
            + " fd -- gd -- de -- df -- af -- bf -- cf -- ef -- ff -- gf; liberties(3, 3) = 26; stones(3, 3) = 23");

        says(17, "Throws `IllegalStateException` if no game was begun");
        whereNoGameWasBegun("go aa;", "liberties(0, 0)");
        run("liberties(9, 9) throws IllegalStateException");

        says(17, "Throws `IndexOutOfBoundsException` if there is no such point on the board of the game");
        offTheBoard("board(3, 4); start(); go aa; board(7, 7);", "liberties", "");

        says(17, "Throws `NoSuchElementException` if there is no stone");
        noStone("liberties", "");
    }

    private void prisoners() {
        says(18, "Returns how many prisoners a side has.");
        run("board(2, 2); rule('p', 1); start(); prisoners('b') = 0; prisoners('w') = 0; go aa ba --;"
            + "prisoners('w') = 0; go ab; prisoners('w') = 1; prisoners('b') = 0; go -- --; dead(1, 0) = 1;"
            + "prisoners('b') = 0; prisoners('w') = 1; start(); prisoners('w') = 0");

        says(18, "'b' or 'w'");
        run("board(3, 3); start(); go ab aa ba; prisoners('b') = 1; prisoners('w') = 0");
        run("board(3, 3); start(); go -- ab aa ba; prisoners('b') = 0; prisoners('w') = 1");

        says(18, "Returns how many.");
        run("board(7, 7); start();" + fillAllButLast(7, 7) + "play(6, 6) = 48; prisoners('w') = 48;"
            + "prisoners('b') = 0; undo(); prisoners('w') = 0");
        run("board(3, 2); rule('s', 1); start(); go ba -- bb aa -- ab; prisoners('b') = 2; prisoners('w') = 0");

        says(18, "Throws `IllegalStateException` if no game was begun");
        whereNoGameWasBegun("", "prisoners('b')");

        says(18, "Throws `IllegalArgumentException` if there is no such side");
        noSuchSide("start();", "prisoners($)");
        noSuchSide("start(); resign();", "prisoners($)");
    }

    private void moves() {
        says(19, "Returns how many moves and passes there were.");
        run("handicap(0, 0); start(); moves() = 0; go --; moves() = 1; go bb; moves() = 2; undo(); moves() = 1;"
            + "go -- ; moves() = 2; start(); moves() = 0; go bb; resign(); moves() = 1");

        says(19, "Returns how many.");
        run("board(2, 2); start(); go aa ba -- ab; moves() = 4; play(0, 0) throws UnsupportedOperationException;"
            + "moves() = 4; board(3, 3); moves() = 4");

        says(19, "Throws `IllegalStateException` if no game was begun");
        whereNoGameWasBegun("", "moves()");
    }

    private void isOver() {
        says(20, "Returns whether the game is over.");
        run("start(); isOver() = false; go --; isOver() = false; go --; isOver() = true; undo(); isOver() = false;"
            + "resign(); isOver() = true; start(); isOver() = false");

        says(20, "Returns whether it is.");
        run("clock(1, 0, 1); start(); think(1) = -1000; isOver() = false; think(1) = -2000; isOver() = true");
        run("board(2, 2);" + blockAllBut(2, 2, "aa") + "start(); isOver() = false; go --; isOver() = false; go --;"
            + "isOver() = true");

        says(20, "Throws `IllegalStateException` if no game was begun");
        whereNoGameWasBegun("", "isOver()");
    }

    private void dead() {
        says(21, "Tells a group to be dead, or alive again if it was told so.");
        run("board(4, 2); start(); go aa ca ab cb -- --; dead(2, 0) = 2; score('b') = 8; dead(2, 1) = 0;"
            + "score('b') = 0; score('w') = 2; dead(0, 1) = 2; score('w') = 8; dead(2, 1) = 4; score('w') = 2;"
            + "isOver() = true; looks b.w./b.w.; stones(2, 0) = 2; margin() = -13");

        says(21, "Returns how many stones are dead.");
        run("start(); go aa bb ab cc ac -- --; dead(0, 0) = 3; dead(1, 1) = 4; dead(2, 2) = 5; dead(0, 2) = 2;"
            + "dead(1, 1) = 1; dead(2, 2) = 0");
        run("board(7, 7); start();" + fillAllButLast(7, 7) + "go -- --; dead(3, 3) = 48; score('w') = 48;"
            + "score('b') = 0; dead(0, 0) = 0; score('b') = 1");
        run("start(); go aa bb -- --; dead(0, 0) = 1; start(); go aa bb -- --; dead(1, 1) = 1");

        says(21, "Throws `IllegalStateException` if no game was begun");
        run("dead(0, 0) throws IllegalStateException; dead(9, 9) throws IllegalStateException; start(); go aa -- --;"
            + "dead(0, 0) = 1");
        run("board(2, 2);" + blockAllBut(2, 2) + "start() throws UnsupportedOperationException;"
            + "dead(0, 0) throws IllegalStateException");
    }

    private void deadRefused() {
        says(21, "Throws `IndexOutOfBoundsException` if there is no such point on the board of the game");
        offTheBoard("board(3, 4); start(); go aa; board(7, 7);", "dead", "");
        offTheBoard("board(3, 4); start(); go aa -- --; board(7, 7); dead(0, 0);", "dead", "");
        offTheBoard("board(3, 4); start(); go aa; resign();", "dead", "");

        says(21, "Throws `NoSuchElementException` if there is no stone");
        noStone("dead", "");
        run("board(2, 2); block(1, 1); start(); go aa -- --; dead(1, 0) throws NoSuchElementException;"
            + "dead(1, 1) throws NoSuchElementException; dead(0, 0) = 1; dead(1, 0) throws NoSuchElementException");
        run("start(); go aa; resign(); dead(1, 1) throws NoSuchElementException");

        says(21, "Throws `UnsupportedOperationException` if the game is not over by two passes");
        run("start(); go aa; dead(0, 0) throws UnsupportedOperationException; go --;"
            + "dead(0, 0) throws UnsupportedOperationException; go --; dead(0, 0) = 1; undo();"
            + "dead(0, 0) throws UnsupportedOperationException; resign();"
            + "dead(0, 0) throws UnsupportedOperationException");
        run("clock(0, 0, 1); start(); go aa --; think(1) = -2000; dead(0, 0) throws UnsupportedOperationException");
    }

    private void score() {
        says(22, "Returns what a side has, by the rule, without komi.");
        run("board(2, 2); komi(99); start(); go aa; score('b') = 3; score('w') = 0; rule('a', 1); start(); go aa;"
            + "score('b') = 4; score('w') = 0; resign(); score('b') = 4");

        says(22, "'b' or 'w'");
        run("board(3, 3); start(); go bb; score('b') = 8; score('w') = 0; start(); go -- bb; score('b') = 0;"
            + "score('w') = 8");

        says(22, "Returns the number.");
        run("start(); score('b') = 0; score('w') = 0");
        run("board(7, 7); rule('a', 1); start(); go -- dd; score('w') = 49; score('b') = 0");
        // all points and each stone that ever was taken
        run("board(7, 7); rule('p', 1); start();" + fillAllButLast(7, 7) + "play(6, 6) = 48; score('w') = 96;"
            + "score('b') = 47");
        run("board(2, 2);" + blockAllBut(2, 2, "aa") + "rule('p', 1); start(); score('b') = 0; go --;"
            + "score('w') = 1; score('b') = 0");

        says(22, "Throws `IllegalStateException` if no game was begun");
        whereNoGameWasBegun("", "score('b')");

        says(22, "Throws `IllegalArgumentException` if there is no such side");
        noSuchSide("start();", "score($)");
        noSuchSide("start(); go -- --;", "score($)");
    }

    private void margin() {
        says(23, "Returns the margin.");
        run("board(3, 3); start(); margin() = -13; go bb; margin() = 3; go -- --; dead(1, 1) = 1; margin() = -15;"
            + "undo(); margin() = 3; resign(); margin() = 3");

        says(23, "Returns the margin.");
        run("board(7, 7); rule('p', 1); komi(-99); start();" + fillAllButLast(7, 7) + "margin() = "
            + (2 * (1 + 47) + 99));
        run("board(7, 7); rule('p', 1); komi(99); start();" + fillAllButLast(7, 7) + "play(6, 6) = 48; margin() = "
            + (2 * (47 - 96) - 99));

        says(23, "Throws `IllegalStateException` if no game was begun");
        whereNoGameWasBegun("", "margin()");
    }

    private void winner() {
        says(24, "Returns who has won.");
        run("start(); go -- --; winner() = 'w'; undo(); undo(); go aa -- --; winner() = 'b'; dead(0, 0) = 1;"
            + "winner() = 'w'");

        says(24, "Returns 'b', 'w', or '=' for nobody.");
        run("board(3, 3); komi(16); start(); go bb -- --; margin() = 0; winner() = '='; dead(1, 1) = 1;"
            + "winner() = 'w'");
        run("board(3, 3); komi(15); start(); go bb -- --; margin() = 1; winner() = 'b'");
        run("board(3, 3); komi(17); start(); go bb -- --; margin() = -1; winner() = 'w'");
        run("komi(0); start(); resign() = 'w'; margin() = 0; winner() = 'w'");
        run("komi(0); clock(0, 0, 1); start(); go --; think(1) = -2000; margin() = 0; winner() = 'b'");

        says(24, "Throws `IllegalStateException` if no game was begun");
        whereNoGameWasBegun("go -- --;", "winner()");

        says(24, "Throws `NoSuchElementException` if it is not over");
        run("start(); winner() throws NoSuchElementException; go --; winner() throws NoSuchElementException; go --;"
            + "winner() = 'w'; undo(); winner() throws NoSuchElementException; resign() = 'b'; winner() = 'b';"
            + "start(); winner() throws NoSuchElementException");
    }

    private void isAlive() {
        says(25, "Returns whether a group is alive.");
        run("board(3, 2); start(); go ba; isAlive(1, 0) = false; go -- bb; isAlive(1, 0) = true;"
            + "isAlive(1, 1) = true; undo(); isAlive(1, 0) = false");

        says(25, "Returns whether it is.");
        run("board(5, 2); start(); go ea ba -- bb -- ca -- da -- db; isAlive(1, 0) = true; isAlive(4, 0) = false;"
            + "go -- --; isAlive(1, 0) = true; dead(1, 0); isAlive(1, 0) = true; isAlive(4, 0) = false");

        says(25, "Throws `IllegalStateException` if no game was begun");
        whereNoGameWasBegun("go aa;", "isAlive(0, 0)");
        run("isAlive(9, 9) throws IllegalStateException");

        says(25, "Throws `IndexOutOfBoundsException` if there is no such point on the board of the game");
        offTheBoard("board(3, 4); start(); go aa; board(7, 7);", "isAlive", "");

        says(25, "Throws `NoSuchElementException` if there is no stone");
        noStone("isAlive", "");
    }

    private void safe() {
        says(26, "Returns how many points are safe for a side.");
        run("board(3, 2); start(); go ba; safe('b') = 0; go aa bb; safe('b') = 6; safe('w') = 0; resign();"
            + "safe('b') = 6");

        says(26, "'b' or 'w'");
        run("board(5, 3); start(); go ba da bb db bc dc aa; safe('b') = 0; safe('w') = 0");
        run("board(7, 2); start(); go ba fa bb fb ca ea cb eb aa ga; safe('b') = 0; safe('w') = 0");
        run("board(7, 2); block(3, 0); block(3, 1); start(); go ba fa bb fb; safe('b') = 6; safe('w') = 6");

        says(26, "Returns how many.");
        run("board(7, 7); start(); safe('b') = 0; go dd; safe('b') = 0");
        // black's stones leave two single points of a full board
        run("board(7, 7); start();" + fillAllButLast(7, 7) + "safe('b') = 0; undo(); go --; safe('b') = 0; undo();"
            + "undo(); undo(); safe('b') = 0");
        // (0, 4) has but one vital area, (0, 3), and takes it from the others till it hangs to them
        run("board(7, 7); start(); go ba -- ab -- bb; safe('b') = 0; go -- ac -- bc -- bd -- ae; safe('b') = 0;"
            + "go -- be; safe('b') = 10; safe('w') = 0");

        says(26, "Throws `IllegalStateException` if no game was begun");
        whereNoGameWasBegun("", "safe('b')");

        says(26, "Throws `IllegalArgumentException` if there is no such side");
        noSuchSide("start(); go aa bb;", "safe($)");
    }

    private void isCaught() {
        says(27, "Returns whether a group can be caught.");
        run("start(); go ba bb; isCaught(1, 0, 1) = false; isCaught(1, 0, 2) = true; isCaught(1, 1, 2) = false;"
            + "resign(); isCaught(1, 0, 2) = true");

        says(27, "Returns whether it can.");
        run("start(); go aa ba; isCaught(0, 0, 1) = true; isCaught(1, 0, 1) = false;"
            + "looks bw.../...../...../...../.....; go -- --; isCaught(0, 0, 1) = true");
        run("board(7, 7); start(); go dd; isCaught(3, 3, 1) = false; isCaught(3, 3, 4) = false");

        says(27, "Throws `IllegalStateException` if no game was begun");
        whereNoGameWasBegun("go aa;", "isCaught(0, 0, 1)");
        run("isCaught(9, 9, 9) throws IllegalStateException; isCaught(0, 0, 9) throws IllegalStateException");

        says(27, "Throws `IndexOutOfBoundsException` if there is no such point on the board of the game");
        offTheBoard("board(3, 4); start(); go aa; board(7, 7);", "isCaught", ", 1");
        offTheBoard("board(3, 4); start(); go aa; board(7, 7);", "isCaught", ", 5");

        says(27, "Throws `IllegalArgumentException` if the number is out of range");
        run("start(); go aa; isCaught(0, 0, 0) throws IllegalArgumentException;"
            + "isCaught(0, 0, 5) throws IllegalArgumentException; isCaught(0, 0, -1) throws IllegalArgumentException;"
            + "isCaught(0, 0, 2147483647) throws IllegalArgumentException;"
            + "isCaught(0, 0, -2147483648) throws IllegalArgumentException; isCaught(0, 0, 1) = false;"
            + "isCaught(0, 0, 4) = false; isCaught(1, 1, 0) throws IllegalArgumentException;"
            + "isCaught(1, 1, 5) throws IllegalArgumentException");

        says(27, "Throws `NoSuchElementException` if there is no stone");
        noStone("isCaught", ", 1");
        noStone("isCaught", ", 4");
    }

    private void influence() {
        says(28, "Returns the influence at a point, blocked or not.");
        run("board(7, 2); block(1, 0); start(); influence(1, 0) = 0; go aa; influence(1, 0) = 4; influence(0, 0) = 8;"
            + "influence(2, 0) = 2; go bb; influence(1, 0) = 0; influence(0, 0) = 6; resign(); influence(1, 1) = -6");

        says(28, "Returns the influence.");
        run("start(); influence(0, 0) = 0; go aa bb; influence(0, 0) = 6; influence(1, 1) = -6; influence(4, 4) = 0;"
            + "influence(1, 0) = 0; undo(); influence(1, 0) = 4");

        says(28, "Throws `IllegalStateException` if no game was begun");
        whereNoGameWasBegun("", "influence(0, 0)");
        run("influence(9, 9) throws IllegalStateException");

        says(28, "Throws `IndexOutOfBoundsException` if there is no such point on the board of the game");
        offTheBoard("board(3, 4); rule('w', 1); start(); go aa; board(7, 7);", "influence", "");
    }

    private void pattern() {
        says(29, "Tells a cell of the pattern.");
        run("start(); found() = 25; pattern(4, 'b'); found() = 0; go aa; found() = 1; start(); found() = 0;"
            + "board(2, 2); pattern(4, '.') = 'b'; found() = 25");

        says(29, "the cell, 0 to 8");
        run("pattern(0, 'b') = '?'; pattern(8, 'w') = '?'; pattern(0, '?') = 'b'; pattern(8, '?') = 'w'");

        says(29, "Returns what it was.");
        for (int cell = 0; cell <= 8; cell++) {
            run(("pattern($, 'b') = '?'; pattern($, 'w') = 'b'; pattern($, '.') = 'w'; pattern($, '#') = '.';"
                + "pattern($, '#') = '#'; start(); board(2, 2); pattern($, '?') = '#'").replace("$", "" + cell));
        }

        says(29, "Throws `IndexOutOfBoundsException` if there is no such cell");
        run("pattern(9, 'b') throws IndexOutOfBoundsException; pattern(-1, 'b') throws IndexOutOfBoundsException;"
            + "pattern(9, 'x') throws IndexOutOfBoundsException;"
            + "pattern(2147483647, 'b') throws IndexOutOfBoundsException;"
            + "pattern(-2147483648, '?') throws IndexOutOfBoundsException;"
            + "pattern(-1, 'x') throws IndexOutOfBoundsException");

        says(29, "Throws `IllegalArgumentException` if there is no such thing");
        run("pattern(4, 'b'); pattern(4, 'x') throws IllegalArgumentException;"
            + "pattern(4, 'B') throws IllegalArgumentException; pattern(4, ' ') throws IllegalArgumentException;"
            + "pattern(4, #0) throws IllegalArgumentException; pattern(4, #65535) throws IllegalArgumentException;"
            + "pattern(4, #354) throws IllegalArgumentException; pattern(4, '-') throws IllegalArgumentException;"
            + "pattern(4, '?') = 'b'");
    }

    private void found() {
        says(30, "Returns at how many points, which are not blocked, the pattern is found.");
        run("board(4, 3); block(3, 2); start(); found() = 11; pattern(4, '#'); found() = 0; pattern(4, '.');"
            + "found() = 11; go aa; found() = 10; pattern(4, 'b'); found() = 1; pattern(4, 'w'); found() = 0;"
            + "resign(); pattern(4, 'b'); found() = 1");

        says(30, "Returns how many.");
        run("board(7, 7); start(); found() = 49; pattern(0, '#'); found() = 24; pattern(1, '#'); pattern(2, '#');"
            + "found() = 24; pattern(3, '#'); pattern(6, '#'); found() = 4; pattern(5, '#'); found() = 0");
        run("board(7, 7);" + blockAllBut(7, 7, "gg") + "start(); found() = 1; pattern(0, '#'); pattern(1, '#');"
            + "pattern(2, '#'); pattern(3, '#'); pattern(5, '#'); pattern(6, '#'); pattern(7, '#'); pattern(8, '#');"
            + "found() = 1; pattern(4, '.'); found() = 1; pattern(8, '.'); found() = 0");
        run("board(2, 2); start(); found() = 4; pattern(4, 'b'); found() = 0");

        says(30, "Throws `IllegalStateException` if no game was begun");
        whereNoGameWasBegun("", "found()");
    }

    private void shape() {
        says(31, "Returns the shape of the board.");
        run("board(2, 2); start(); go ba; shape() = " + sum(0, 0, 0, 1) + "; go ab; shape() = " + sum(0, 1, 2, 0)
            + "; resign(); shape() = " + sum(0, 1, 2, 0));

        says(31, "Returns the sum.");
        // sums of 14 points wrap around
        run("board(7, 2); block(6, 0); start(); shape() = " + leastWithABlock(14, 0, 6, 7, 13));
        run("board(2, 7); block(1, 0); start(); shape() = " + leastWithABlock(14, 0, 1, 12, 13));
        run("board(7, 7); block(6, 0); start(); shape() = " + leastWithABlock(49, 0, 6, 42, 48));
        run("board(7, 7); block(2, 0); start(); shape() = " + leastWithABlock(49, 2, 4, 14, 20, 28, 34, 44, 46));

        says(31, "Throws `IllegalStateException` if no game was begun");
        whereNoGameWasBegun("", "shape()");
    }

    private static long leastWithABlock(int points, int... places) {
        long least = Long.MAX_VALUE;
        for (int place : places) {
            int[] cells = new int[points];
            cells[place] = 3;
            least = Math.min(least, sum(cells));
        }
        return least;
    }

    private void think() {
        says(32, "Lets time go by for the player whose turn it is.");
        run("clock(9, 0, 1); start(); think(2) = 7; go --; think(4) = 5; go aa; think(1) = 6; go bb; think(1) = 4;"
            + "moves() = 3; turn() = 'w'");

        says(32, "the seconds, 1 to 600");
        run("clock(3600, 0, 1); start(); think(1) = 3599; think(600) = 2999");

        says(32, "Returns the main seconds left, if there are some,");
        run("clock(3, 5, 60); start(); think(1) = 2; think(1) = 1; think(1) = -940");

        says(32, "otherwise those left of the period,");
        run("clock(1, 2, 3); start(); think(1) = -997; think(1) = -998; think(1) = -999; think(1) = -997;"
            + "think(2) = -999");
        run("clock(0, 5, 60); start(); think(1) = -941; think(58) = -999; think(1) = -940");

        says(32, "0 without one,");
        run("clock(2, 0, 60); start(); think(2) = -1000; isOver() = false");
        run("clock(0, 1, 60); start(); think(60) = -1000; isOver() = false; periods('b') = 0");

        says(32, "less 1000,");
        run("clock(0, 1, 2); start(); think(1) = -999");

        says(32, "or -2000 if time has run out by that.");
        run("clock(0, 1, 2); start(); think(2) = -1000; think(1) = -2000; isOver() = true; winner() = 'w'");
        run("clock(0, 1, 2); start(); think(3) = -2000; isOver() = true; moves() = 0");
        run("clock(0, 0, 60); start(); go aa; think(600) = -2000; winner() = 'b'; moves() = 1; at(0, 0) = 'b'");
    }

    private void thinkRefused() {
        says(32, "Throws `IllegalStateException` if no game goes on");
        run("think(1) throws IllegalStateException; think(0) throws IllegalStateException; clock(9, 1, 5);"
            + "think(1) throws IllegalStateException; start(); think(1) = 8; go -- --;"
            + "think(1) throws IllegalStateException; think(601) throws IllegalStateException; undo(); think(1) = 8;"
            + "resign(); think(1) throws IllegalStateException");
        run("clock(1, 0, 1); start(); think(2) = -2000; think(1) throws IllegalStateException; periods('b') = 0;"
            + "start(); think(1) = -1000");
        run("start(); resign(); think(1) throws IllegalStateException; think(0) throws IllegalStateException");

        says(32, "Throws `IllegalArgumentException` if the number is out of range");
        run("clock(3600, 5, 60); start(); think(0) throws IllegalArgumentException;"
            + "think(601) throws IllegalArgumentException; think(-1) throws IllegalArgumentException;"
            + "think(2147483647) throws IllegalArgumentException; think(-2147483648) throws IllegalArgumentException;"
            + "think(1) = 3599");
        run("start(); think(0) throws IllegalArgumentException; think(601) throws IllegalArgumentException");

        says(32, "Throws `UnsupportedOperationException` if there are no clocks");
        run("start(); think(1) throws UnsupportedOperationException; think(600) throws UnsupportedOperationException;"
            + "clock(9, 0, 1); think(1) throws UnsupportedOperationException; start(); think(1) = 8");
        run("clock(0, 0, 1); start(); think(1) = -2000");
    }

    private void periods() {
        says(33, "Returns how many periods a side has left.");
        run("clock(0, 3, 2); start(); periods('b') = 3; think(2) = -998; periods('b') = 2; periods('w') = 3; go --;"
            + "think(4) = -998; periods('w') = 1; periods('b') = 2; resign(); periods('b') = 2; periods('w') = 1;"
            + "start(); periods('b') = 3");

        says(33, "'b' or 'w'");
        run("clock(0, 5, 1); start(); think(1); periods('b') = 4; periods('w') = 5; go --; think(2); periods('b') = 4;"
            + "periods('w') = 3");

        says(33, "Returns how many.");
        run("clock(3600, 5, 60); start(); periods('b') = 5; periods('w') = 5");
        run("clock(0, 0, 1); start(); periods('b') = 0; think(1) = -2000; periods('b') = 0; periods('w') = 0");
        run("clock(0, 5, 60); start(); think(299) = -999; periods('b') = 1; think(1) = -1000; periods('b') = 0");
        run("clock(0, 5, 60); start(); think(301) = -2000; periods('b') = 0; periods('w') = 5");

        says(33, "Throws `IllegalStateException` if no game was begun");
        whereNoGameWasBegun("resign(); clock(1, 1, 1); start();", "periods('b')");
        run("clock(1, 1, 1); periods('b') throws IllegalStateException; periods('x') throws IllegalStateException");

        says(33, "Throws `IllegalArgumentException` if there is no such side");
        noSuchSide("clock(1, 1, 1); start();", "periods($)");
        run("start(); periods('x') throws IllegalArgumentException; periods(#0) throws IllegalArgumentException");

        says(33, "Throws `UnsupportedOperationException` if there are no clocks");
        run("start(); periods('b') throws UnsupportedOperationException;"
            + "periods('w') throws UnsupportedOperationException; clock(1, 1, 1);"
            + "periods('b') throws UnsupportedOperationException; resign();"
            + "periods('b') throws UnsupportedOperationException; start(); periods('b') = 1");
    }

    private void value() {
        says(34, "Returns the value of the position.");
        run(TWO_POINTS + "start(); value(0) = 0; value(1) = 4; value(2) = -4; moves() = 0; looks ../##; go aa;"
            + "value(0) = -4; value(1) = 4; value(2) = 4; moves() = 1; turn() = 'w'; isSound() = true");

        says(34, "Returns the value.");
        run("komi(99); board(7, 7); start(); value(0) = -99; value(1) = -1; value(2) = -99");
        run("komi(-99); board(7, 7); start(); value(0) = 99; value(1) = 197; value(2) = 99");
        run("board(7, 7); komi(99); start(); go --; value(0) = 99; value(1) = 197; value(2) = 99; go aa;"
            + "value(0) = -197");

        says(34, "Throws `IllegalStateException` if no game goes on");
        whereNoGameGoesOn("", "value(0)");
        whereNoGameGoesOn("", "value(2)");
        run("value(3) throws IllegalStateException; start(); resign(); value(-1) throws IllegalStateException");

        says(34, "Throws `IllegalArgumentException` if the depth is out of range");
        run("board(3, 3); start(); value(-1) throws IllegalArgumentException;"
            + "value(3) throws IllegalArgumentException; value(2147483647) throws IllegalArgumentException;"
            + "value(-2147483648) throws IllegalArgumentException; value(0) = -13; value(2) = -13");
    }

    private void best() {
        says(35, "Returns the best move.");
        run(ROW_OF_THREE + "start(); best(2) = 0; go ba; best(1) = 0; best(2) = 0; moves() = 1; looks .b/.#;"
            + "isSound() = true");

        says(35, "the depth, 1 or 2");
        run("board(2, 2); start(); go aa -- bb --; best(1) = 1; best(2) = -1");

        says(35, "Returns the number of the point, -1 to pass.");
        run("board(7, 7);" + blockAllBut(7, 7, "fg", "gg") + "handicap(5, 6); start(); best(1) = 48; best(2) = 48");
        run("board(7, 7);" + blockAllBut(7, 7, "aa", "ba") + "handicap(1, 0); start(); best(1) = 0; best(2) = 0");
        run("board(2, 2);" + blockAllBut(2, 2, "aa") + "start(); best(1) = -1; best(2) = -1");
        run("board(3, 2);" + blockAllBut(3, 2, "bb", "cb") + "start(); best(1) = 4");
        run(TWO_POINTS + "start(); go aa ba; best(1) = -1; best(2) = -1");

        says(35, "Throws `IllegalStateException` if no game goes on");
        whereNoGameGoesOn("", "best(1)");
        run("best(0) throws IllegalStateException; start(); resign(); best(3) throws IllegalStateException");

        says(35, "Throws `IllegalArgumentException` if the depth is out of range");
        run("board(3, 3); start(); best(0) throws IllegalArgumentException; best(3) throws IllegalArgumentException;"
            + "best(-1) throws IllegalArgumentException; best(2147483647) throws IllegalArgumentException;"
            + "best(-2147483648) throws IllegalArgumentException; best(1) = 0; best(2) = 0");
    }

    private void loss() {
        says(36, "Returns the loss by a move.");
        run(ROW_OF_THREE + "start(); loss(0, 0, 2) = 0; loss(0, 1, 2) = 12; loss(1, 0, 2) = 12; loss(0, 1, 1) = 0;"
            + "moves() = 0; looks ../.#; isSound() = true");

        says(36, "the depth, 1 or 2");
        run("board(2, 2); start(); go aa -- bb --; loss(1, 0, 1) = 0; loss(1, 0, 2) = 16");

        says(36, "Returns the loss.");
        run(ROW_OF_THREE + "start(); go ba; loss(0, 0, 1) = 0; loss(0, 1, 1) = 6; value(1) = 6");
        // all the board against none of it: to fill the last point but one lets white take 48 stones, to pass ends it
        run("board(7, 7); start();" + fillAllButLast(7, 7) + "undo(); value(2) = 85; best(2) = -1; loss(5, 6, 2) = 196;"
            + "loss(6, 6, 2) = 196; loss(6, 6, 1) = 0");
        run("board(7, 7); start(); loss(0, 0, 1) = 0; loss(6, 6, 2) = 0");

        says(36, "Throws `IllegalStateException` if no game goes on");
        whereNoGameGoesOn("", "loss(0, 0, 1)");
        run("loss(9, 9, 9) throws IllegalStateException; loss(0, 0, 9) throws IllegalStateException; start(); go aa;"
            + "resign(); loss(0, 0, 1) throws IllegalStateException; loss(9, 0, 1) throws IllegalStateException");
    }

    private void lossRefused() {
        says(36, "Throws `IndexOutOfBoundsException` if there is no such point on the board of the game");
        offTheBoard("board(3, 4); start(); go aa; board(7, 7);", "loss", ", 1");
        offTheBoard("board(3, 4); start(); go aa; board(7, 7);", "loss", ", 3");

        says(36, "Throws `IllegalArgumentException` if the depth is out of range");
        run("board(3, 3); block(2, 2); start(); loss(0, 0, 0) throws IllegalArgumentException;"
            + "loss(0, 0, 3) throws IllegalArgumentException;"
            + "loss(0, 0, -2147483648) throws IllegalArgumentException;"
            + "loss(0, 0, 2147483647) throws IllegalArgumentException;"
            + "loss(2, 2, 0) throws IllegalArgumentException; go aa; loss(0, 0, 3) throws IllegalArgumentException;"
            + "loss(1, 1, 1) = 0");

        says(36, "Throws `UnsupportedOperationException` if it is blocked or barred");
        run("board(3, 3); block(2, 2); start(); loss(2, 2, 1) throws UnsupportedOperationException; go ba;"
            + "loss(1, 0, 1) throws UnsupportedOperationException;"
            + "loss(2, 2, 2) throws UnsupportedOperationException; go -- ab;"
            + "loss(0, 0, 1) throws UnsupportedOperationException; loss(0, 0, 2) throws UnsupportedOperationException");
        run("board(4, 3); start(); go ba ca ab db bc cc cb bb; loss(2, 1, 1) throws UnsupportedOperationException");
    }

    private void line() {
        says(37, "Returns how long the record is, written: for each move B or W, [, the letter a and further ones for"
            + " x, one for y, ], or B[] and W[] for a pass.");
        run("board(7, 6); start(); line() = 0; go gf; line() = 5; sign(0) = 'B'; sign(1) = '['; sign(2) = 'g';"
            + "sign(3) = 'f'; sign(4) = ']'; go --; line() = 8; sign(5) = 'W'; sign(6) = '['; sign(7) = ']';"
            + "go aa -- --; line() = 19; sign(8) = 'B'; sign(10) = 'a'; sign(11) = 'a'; sign(13) = 'W';"
            + "sign(16) = 'B'; sign(18) = ']'");
        run("board(6, 7); handicap(0, 0); start(); line() = 0; go fg; sign(0) = 'W'; sign(2) = 'f'; sign(3) = 'g';"
            + "go --; sign(5) = 'B'; sign(7) = ']'");

        says(37, "Returns how many signs.");
        run("start(); line() = 0; go aa bb; line() = 10; undo(); line() = 5; go --; line() = 8; resign();"
            + "line() = 8; start(); line() = 0; go -- --; line() = 6; undo(); line() = 3; undo(); line() = 0");

        says(37, "Throws `IllegalStateException` if no game was begun");
        whereNoGameWasBegun("", "line()");
    }

    private void sign() {
        says(38, "Returns a sign of the record, written.");
        run("board(2, 2); start(); go ba --; undo(); go ab; line() = 10; sign(5) = 'W'; sign(6) = '[';"
            + "sign(7) = 'a'; sign(8) = 'b'; sign(9) = ']'; resign(); sign(2) = 'b'; sign(3) = 'a'");

        says(38, "the place, from 0");
        run("start(); go --; sign(0) = 'B'; sign(1) = '['; sign(2) = ']'");

        says(38, "Returns the sign.");
        for (int x = 0; x < 7; x++) {
            char letter = (char) ('a' + x);
            run("board(7, 7); start(); play(" + x + ", " + (6 - x) + "); sign(2) = '" + letter + "'; sign(3) = '"
                + (char) ('g' - x) + "'; sign(4) = ']'");
        }

        says(38, "Throws `IllegalStateException` if no game was begun");
        whereNoGameWasBegun("go aa;", "sign(0)");
        run("sign(-1) throws IllegalStateException; sign(9) throws IllegalStateException");

        says(38, "Throws `NoSuchElementException` if there is no such sign");
        run("start(); sign(0) throws NoSuchElementException; sign(-1) throws NoSuchElementException; go aa;"
            + "sign(4) = ']'; sign(5) throws NoSuchElementException; sign(-1) throws NoSuchElementException; go --;"
            + "sign(7) = ']'; sign(8) throws NoSuchElementException; sign(2147483647) throws NoSuchElementException;"
            + "sign(-2147483648) throws NoSuchElementException; undo(); sign(5) throws NoSuchElementException;"
            + "undo(); sign(0) throws NoSuchElementException");
    }

    private void checksum() {
        says(39, "Returns a sum over the game.");
        run("checksum() = 7; board(2, 2); block(1, 1); checksum() = 7; start(); checksum() = "
            + sum('.', '.', '.', '#', 0, 0, 0) + "; board(3, 3); checksum() = " + sum('.', '.', '.', '#', 0, 0, 0));

        says(39, "Returns 7 at first, then, if one was begun, for each point by rows 31 times itself plus what at()"
            + " returns as a number, then 31 times itself plus the prisoners of black, then of white, then how many"
            + " moves there were.");
        run("checksum() = 7; board(2, 2);" + blockAllBut(2, 2) + "start() throws UnsupportedOperationException;"
            + "checksum() = 7");
        run("board(2, 2); start(); go aa ba; checksum() = " + sum('b', 'w', '.', '.', 0, 0, 2) + "; go --;"
            + "checksum() = " + sum('b', 'w', '.', '.', 0, 0, 3) + "; go ab; checksum() = "
            + sum('.', 'w', 'w', '.', 0, 1, 4) + "; resign(); checksum() = " + sum('.', 'w', 'w', '.', 0, 1, 4));
        run("board(2, 2); start(); go -- aa ba -- ab; checksum() = " + sum('.', 'b', 'b', '.', 1, 0, 5));
        run("board(3, 2); handicap(2, 1); start(); checksum() = " + sum('.', '.', '.', '.', '.', 'b', 0, 0, 0));
        // of 49 points the sum wraps around many times
        int[] cells = new int[52];
        for (int i = 0; i < 49; i++) cells[i] = '.';
        cells[48] = 'b';
        cells[51] = 1;
        run("board(7, 7); start(); go gg; checksum() = " + sum(cells));

        says(39, "Returns 7 at first,");
        run("checksum() = 7; start(); board(7, 7); resign(); start(); checksum() = " + emptyChecksum());
    }

    private static long emptyChecksum() {
        int[] cells = new int[52];
        for (int i = 0; i < 49; i++) cells[i] = '.';
        return sum(cells);
    }

    private void fullShare() {
        says(40, "Returns the share of points of the game that have stones.");
        run("board(3, 3); start(); fullShare() = 0.0; go aa bb ba; fullShare() = " + 3f / 9f + "; undo();"
            + "fullShare() = " + 2f / 9f + "; board(2, 2); resign(); fullShare() = " + 2f / 9f);

        says(40, "Returns their number divided by that of all points that are not blocked, both converted to float.");
        run("board(2, 2); block(1, 1); start(); go aa; fullShare() = " + 1f / 3f);
        run("board(7, 7); start();" + fillAllButLast(7, 7) + "fullShare() = " + 48f / 49f);
        run("board(7, 7); start(); go aa bb cc dd ee; fullShare() = " + 5f / 49f);
        run("board(7, 7);" + blockAllBut(7, 7, "aa") + "start(); fullShare() = 0.0");
        run(TWO_POINTS + "handicap(0, 0); start(); fullShare() = 0.5");
        run("board(2, 2); block(1, 1); rule('s', 1); start(); go aa -- ab -- ba; fullShare() = 0.0");

        says(40, "Throws `IllegalStateException` if no game was begun");
        whereNoGameWasBegun("", "fullShare()");
    }

    private void meanLiberties() {
        says(41, "Returns the mean number of liberties of groups.");
        run("board(3, 3); start(); go aa bb ba; meanLiberties() = 2.5; go cc; meanLiberties() = " + 7.0 / 3.0 + ";"
            + "undo(); meanLiberties() = 2.5; resign(); meanLiberties() = 2.5");

        says(41, "Returns the sum divided by the number of groups, both converted to double.");
        run("start(); go aa; meanLiberties() = 2.0; go ba; meanLiberties() = 1.5; go ee; meanLiberties() = "
            + 5.0 / 3.0);
        run("board(7, 7); start();" + fillAllButLast(7, 7) + "meanLiberties() = 1.0");
        // a liberty of two groups counts for both
        run("board(3, 2); start(); go aa -- ca; meanLiberties() = 2.0; go ba; meanLiberties() = 1.0");

        says(41, "Throws `IllegalStateException` if no game was begun");
        whereNoGameWasBegun("go aa;", "meanLiberties()");

        says(41, "Throws `ArithmeticException` if there are no groups");
        run("start(); meanLiberties() throws ArithmeticException; go --; meanLiberties() throws ArithmeticException;"
            + "go aa; meanLiberties() = 2.0; undo(); meanLiberties() throws ArithmeticException");
        run("board(2, 2); block(1, 1); rule('s', 1); start(); go aa -- ab -- ba;"
            + "meanLiberties() throws ArithmeticException");
        run("board(2, 2); block(1, 1); start(); meanLiberties() throws ArithmeticException; resign();"
            + "meanLiberties() throws ArithmeticException");
    }

    private void isSound() {
        says(42, "Returns whether so.");
        run("isSound() = true; board(2, 2);" + blockAllBut(2, 2) + "start() throws UnsupportedOperationException;"
            + "isSound() = true; board(2, 2); start(); isSound() = true; resign(); isSound() = true");

        says(42, "Returns whether all groups have liberties;");
        run("isSound() = true; start(); isSound() = true; board(7, 7); handicap(0, 0); handicap(1, 0); handicap(0, 1);"
            + "isSound() = true; start(); isSound() = true;" + "go --; isSound() = true");
        run("board(7, 7); start();" + fillAllButLast(7, 7) + "isSound() = true");

        says(42, "the stones that were put, by handicaps and moves, are those on the board and those that are"
            + " prisoners;");
        run("board(2, 2); start(); go aa ba -- ab; isSound() = true; undo(); isSound() = true; undo(); undo();"
            + "isSound() = true");
        run("board(3, 2); rule('s', 1); start(); go ba -- bb aa -- ab; prisoners('b') = 2; isSound() = true");
        run("board(3, 3); handicap(0, 0); handicap(1, 1); start(); go ba ca ab; isSound() = true; go -- --;"
            + "dead(1, 1); isSound() = true");
        run("board(7, 7); rule('s', 1); handicap(0, 0); handicap(6, 0); handicap(0, 6); start(); go ba ee -- --;"
            + "isSound() = true");

        says(42, "the record, played once more, comes to the same;");
        run("board(4, 3); start(); go ba ca ab db bc cc cb bb aa -- --; isSound() = true; undo(); undo(); undo();"
            + "undo(); go --; isSound() = true; board(2, 2); rule('s', 1); rule('w', 1); isSound() = true");
        run("board(4, 3); rule('w', 1); block(1, 1); handicap(0, 0); start(); go da ab -- db; isSound() = true;"
            + "resign(); isSound() = true");
        run("board(3, 2); clock(1, 0, 1); start(); value(2); best(2); loss(0, 0, 2); go aa; value(2); best(2);"
            + "loss(1, 0, 2); isSound() = true; think(2) = -2000; isSound() = true");

        says(42, "and no position of the game was barred by its ko as it came.");
        for (int ko = 0; ko <= 2; ko++) {
            run("board(4, 3); rule('k', " + ko + "); start(); go ba ca ab db bc cc cb bb; barred(2, 1) = 'k';"
                + "isSound() = true; go -- --; isSound() = true; undo(); go aa; isSound() = true; rule('k', 1);"
                + "isSound() = true");
            run("rule('k', " + ko + "); start(); go -- aa -- -- ; isSound() = true; undo(); undo(); go bb;"
                + "isSound() = true");
        }
        run("board(2, 2); block(1, 1); start(); go ab ba aa ba ab; isSound() = true; go aa ab ba aa; isSound() = true;"
            + "rule('k', 1); isSound() = true");
        run("board(2, 2); block(1, 1); rule('k', 2); start(); go ab ba aa ba ab aa; isSound() = true");
        run("board(2, 2); block(1, 1); rule('k', 2); rule('s', 1); start(); go aa -- ab -- ba; looks ../.#;"
            + "isSound() = true");
    }
}
