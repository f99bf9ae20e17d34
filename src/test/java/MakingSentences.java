/** The promises 1 to 14, sentence by sentence: what is told ahead of a game, and what is made in it. */
final class MakingSentences extends Sentences {
    private static final String NUMBERS_BEYOND = "-2147483648 -1000 2147483647 1000";

    MakingSentences(Document document) {
        super(document);
    }

    @Override
    void all() {
        newObject();
        board();
        block();
        rule();
        komi();
        handicap();
        clock();
        start();
        startRefused();
        play();
        playRefused();
        pass();
        resign();
        undo();
        barred();
        turn();
        closeWords();
    }

    private void newObject() {
        says(1, "Creates a court with a board of 5 by 5, without a game and clocks.");
        run("start() = 25; at(4, 4) = '.'; at(5, 4) throws IndexOutOfBoundsException;"
            + "at(4, 5) throws IndexOutOfBoundsException; periods('b') throws UnsupportedOperationException;"
            + "think(1) throws UnsupportedOperationException; turn() = 'b'");
        run("moves() throws IllegalStateException; at(0, 0) throws IllegalStateException; checksum() = 7;"
            + "isSound() = true; undo() throws UnsupportedOperationException");
        run("clock(1, 1, 1) = -1; board(5, 5) = 25");
    }

    private void board() {
        says(2, "Tells a board without blocked points and handicaps.");
        run("block(0, 0) = 1; handicap(1, 0) = 1; board(5, 5) = 25; block(1, 0) = 1; handicap(0, 0) = 1; start() = 24;"
            + "looks b#.../...../...../...../.....");
        run("rule('s', 1); rule('k', 2); rule('a', 1); rule('p', 1); rule('w', 1); komi(5); clock(9, 1, 1);"
            + "pattern(4, 'b'); board(3, 3); rule('s', 0) = 1; rule('k', 0) = 2; rule('a', 0) = 1; rule('p', 0) = 1;"
            + "rule('w', 0) = 1; komi(0) = 5; clock(1, 1, 1) = 9; pattern(4, '?') = 'b'");
        run("board(7, 7); start(); board(2, 2); moves() = 0; at(6, 6) = '.'");

        says(2, "Returns how many points the one before had, blocked ones too; 25 of 5 by 5 at first.");
        run("board(2, 2) = 25; board(7, 7) = 4; board(2, 3) = 49; block(0, 0) = 1; board(7, 2) = 6; board(5, 5) = 14");
        run("board(2, 2);" + blockAllBut(2, 2) + "board(2, 2) = 4");
        run("block(0, 0); handicap(0, 1); board(3, 3) = 25");

        says(2, "Throws `IllegalArgumentException` if a number is out of range");
        run("board(3, 4); block(0, 0); handicap(1, 1); board(1, 2) throws IllegalArgumentException;"
            + "board(2, 1) throws IllegalArgumentException; board(8, 7) throws IllegalArgumentException;"
            + "board(7, 8) throws IllegalArgumentException; board(0, 0) throws IllegalArgumentException;"
            + "board(1, 8) throws IllegalArgumentException; board(-5, -5) throws IllegalArgumentException;"
            + "board(2, 2) = 12; board(7, 7) = 4");
        for (String beyond : NUMBERS_BEYOND.split(" ")) {
            run("board(" + beyond + ", 5) throws IllegalArgumentException; board(5, " + beyond
                + ") throws IllegalArgumentException; board(" + beyond + ", " + beyond
                + ") throws IllegalArgumentException");
        }
        // numbers whose product is in range, or wraps around into it
        run("board(1, 25) throws IllegalArgumentException; board(25, 1) throws IllegalArgumentException;"
            + "board(65536, 65536) throws IllegalArgumentException; board(-3, -3) throws IllegalArgumentException;"
            + "board(2, 2) = 25");
    }

    private void block() {
        says(3, "Blocks a point.");
        run("board(3, 2); block(2, 1) = 1; start() = 5; looks .../..#");
        run("board(3, 2); block(0, 0) = 1; start() = 5; looks #../...");
        run("board(7, 7); block(6, 6) = 1; start() = 48; at(6, 6) = '#'; at(5, 6) = '.'; at(6, 5) = '.'");

        says(3, "Returns how many are blocked.");
        run("board(2, 2); block(0, 0) = 1; block(1, 0) = 2; block(0, 1) = 3; block(1, 1) = 4; board(2, 2) = 4;"
            + "block(0, 0) = 1");
        StringBuilder all = new StringBuilder("board(7, 7); ");
        for (int i = 0; i < 49; i++) all.append("block(" + i % 7 + ", " + i / 7 + ") = " + (i + 1) + "; ");
        run(all + "block(6, 6) throws UnsupportedOperationException; start() throws UnsupportedOperationException");
        run("handicap(0, 0); block(1, 0) = 1; start() = 24; block(2, 0) = 2; start() = 23");

        says(3, "Throws `IndexOutOfBoundsException` if there is no such point on the board");
        offTheBoard("start(); board(3, 4); block(2, 3); block(0, 0);", "block", "");
        run("board(3, 4); start(); board(7, 7); block(6, 6) = 1; block(3, 0) = 2; block(0, 4) = 3");

        says(3, "Throws `UnsupportedOperationException` if it is blocked, or has a handicap");
        run("block(4, 4) = 1; block(4, 4) throws UnsupportedOperationException; handicap(0, 0) = 1;"
            + "block(0, 0) throws UnsupportedOperationException; block(1, 0) = 2; start() = 23;"
            + "block(4, 4) throws UnsupportedOperationException; block(0, 0) throws UnsupportedOperationException");
    }

    private void rule() {
        says(4, "Tells a rule.");
        run("board(3, 2); rule('w', 1) = 0; start(); go aa; liberties(0, 0) = 3");
        run("board(2, 2); rule('a', 1) = 0; start(); go aa; score('b') = 4; start(); go aa; score('b') = 4");

        says(4, "Returns the number before.");
        for (String rule : "s a p w".split(" ")) {
            run(("rule($, 1) = 0; rule($, 1) = 1; rule($, 0) = 1; rule($, 0) = 0; rule($, 1) = 0; start();"
                + "rule($, 0) = 1").replace("$", "'" + rule + "'"));
        }
        run("rule('k', 2) = 0; rule('k', 1) = 2; rule('k', 1) = 1; rule('k', 0) = 1; rule('k', 2) = 0; board(2, 2);"
            + "start(); rule('k', 0) = 2");
        run("rule('s', 1) = 0; rule('k', 2) = 0; rule('a', 1) = 0; rule('p', 1) = 0; rule('w', 1) = 0;"
            + "rule('s', 0) = 1; rule('k', 0) = 2; rule('a', 0) = 1; rule('p', 0) = 1; rule('w', 0) = 1");

        says(4, "Throws `IllegalArgumentException` if there is no such rule, or the number is out of range");
        run("rule('x', 0) throws IllegalArgumentException; rule('S', 0) throws IllegalArgumentException;"
            + "rule('K', 1) throws IllegalArgumentException; rule('b', 1) throws IllegalArgumentException;"
            + "rule(#0, 0) throws IllegalArgumentException; rule(#65535, 0) throws IllegalArgumentException;"
            + "rule(#371, 1) throws IllegalArgumentException; rule('x', 9) throws IllegalArgumentException");
        for (String rule : "s k a p w".split(" ")) {
            run(("rule($, 1); rule($, -1) throws IllegalArgumentException; rule($, 3) throws IllegalArgumentException;"
                + "rule($, -2147483648) throws IllegalArgumentException; rule($, 256) throws IllegalArgumentException;"
                + "rule($, 2147483647) throws IllegalArgumentException; rule($, 0) = 1")
                .replace("$", "'" + rule + "'"));
            if (!rule.equals("k")) run("rule($, 2) throws IllegalArgumentException".replace("$", "'" + rule + "'"));
        }
    }

    private void komi() {
        says(5, "Tells the komi.");
        run("komi(99) = 13; start(); margin() = -99; komi(-99) = 99; start(); margin() = 99; komi(0) = -99; start();"
            + "margin() = 0");

        says(5, "Returns the one before.");
        run("komi(-99) = 13; komi(99) = -99; komi(1) = 99; komi(0) = 1; komi(-1) = 0; board(2, 2); start();"
            + "komi(13) = -1");

        says(5, "Throws `IllegalArgumentException` if it is out of range");
        run("komi(100) throws IllegalArgumentException; komi(-100) throws IllegalArgumentException; komi(7) = 13;"
            + "komi(2147483647) throws IllegalArgumentException; komi(-2147483648) throws IllegalArgumentException;"
            + "komi(256) throws IllegalArgumentException; start(); margin() = -7");
    }

    private static String handicaps(int count) {
        StringBuilder calls = new StringBuilder();
        for (int i = 0; i < count; i++) calls.append("handicap(" + i % 5 + ", " + i / 5 * 2 + ") = " + (i + 1) + "; ");
        return calls.toString();
    }

    private void handicap() {
        says(6, "Puts a handicap.");
        run("board(3, 2); handicap(2, 1) = 1; start() = 6; looks .../..b; turn() = 'w'");
        run("board(7, 7); handicap(6, 6) = 1; handicap(0, 0) = 2; start() = 49; at(6, 6) = 'b'; at(0, 0) = 'b';"
            + "at(5, 6) = '.'");

        says(6, "Returns how many there are.");
        run(handicaps(9) + "start() = 25; looks bbbbb/...../bbbb./...../.....; board(5, 5); handicap(0, 0) = 1");
        run("handicap(0, 0) = 1; start(); handicap(1, 0) = 2; start(); looks bb.../...../...../...../.....");

        says(6, "Throws `IndexOutOfBoundsException` if there is no such point on the board");
        offTheBoard("start(); board(3, 4); block(2, 3); handicap(0, 0);", "handicap", "");
        run(handicaps(9) + "handicap(5, 0) throws IndexOutOfBoundsException;"
            + "handicap(0, -1) throws IndexOutOfBoundsException");
        run("board(3, 4); start(); board(7, 7); handicap(6, 6) = 1; handicap(3, 0) = 2; handicap(0, 4) = 3");

        says(6, "Throws `UnsupportedOperationException` if it is blocked, or has one");
        run("block(4, 4); handicap(4, 4) throws UnsupportedOperationException; handicap(0, 0) = 1;"
            + "handicap(0, 0) throws UnsupportedOperationException; handicap(1, 0) = 2");
        run("block(4, 4);" + handicaps(9) + "handicap(4, 4) throws UnsupportedOperationException;"
            + "handicap(0, 0) throws UnsupportedOperationException");

        says(6, "Throws `IllegalStateException` if there are 9");
        run(handicaps(8) + "handicap(4, 4) = 9; handicap(4, 3) throws IllegalStateException;"
            + "handicap(0, 4) throws IllegalStateException; start() = 25; handicap(4, 3) throws IllegalStateException");
    }

    private void clock() {
        says(7, "Tells the clocks of later games.");
        run("start(); clock(5, 2, 3) = -1; think(1) throws UnsupportedOperationException; start(); think(5) = -997;"
            + "periods('b') = 2; clock(9, 0, 1) = 5; think(1) = -998; board(2, 2); start(); think(1) = 8;"
            + "periods('b') = 0");

        says(7, "Returns the main seconds before, -1 for no clocks.");
        run("clock(3600, 5, 60) = -1; clock(0, 0, 1) = 3600; clock(7, 5, 60) = 0; start(); clock(1, 0, 1) = 7;"
            + "clock(0, 0, 1) = 1");

        says(7, "Throws `IllegalArgumentException` if a number is out of range");
        run("clock(0, 0, 0) throws IllegalArgumentException; clock(3600, 5, 61) throws IllegalArgumentException;"
            + "clock(3600, 6, 60) throws IllegalArgumentException; clock(0, -1, 1) throws IllegalArgumentException;"
            + "clock(3601, 5, 60) throws IllegalArgumentException; clock(-1, 0, 1) throws IllegalArgumentException;"
            + "clock(0, 0, -1) throws IllegalArgumentException; clock(-1, 6, 0) throws IllegalArgumentException");
        run("clock(5, 2, 3) = -1; clock(7, 6, 3) throws IllegalArgumentException;"
            + "clock(7, 2, 0) throws IllegalArgumentException; clock(-1, 1, 1) throws IllegalArgumentException;"
            + "start(); periods('b') = 2; think(5) = -997; clock(0, 0, 1) = 5");
        for (String beyond : NUMBERS_BEYOND.replace("1000", "10000").split(" ")) {
            run("clock(" + beyond + ", 1, 1) throws IllegalArgumentException; clock(1, " + beyond
                + ", 1) throws IllegalArgumentException; clock(1, 1, " + beyond + ") throws IllegalArgumentException");
        }
    }

    private void start() {
        says(8, "Begins a game, in place of any other one.");
        run("board(2, 2); rule('p', 1); clock(9, 2, 3); start(); go aa ba -- ab; think(9) = -997; think(3) = -997;"
            + "start() = 4; looks ../..; moves() = 0; line() = 0; prisoners('w') = 0; prisoners('b') = 0;"
            + "turn() = 'b'; score('w') = 0; periods('b') = 2; periods('w') = 2; think(1) = 8; checksum() = "
            + sum('.', '.', '.', '.', 0, 0, 0) + "; undo() throws UnsupportedOperationException");
        run("start(); go aa -- --; dead(0, 0) = 1; start(); isOver() = false; go aa -- --; dead(0, 0) = 1");
        run("start(); resign(); start(); isOver() = false; turn() = 'b'; winner() throws NoSuchElementException");
        run("clock(0, 0, 1); start(); think(1); start(); isOver() = false; think(1) = -2000; start(); pass() = false");
        run("board(7, 7); start(); go gg; board(2, 2); start() = 4; looks ../..;"
            + "at(2, 0) throws IndexOutOfBoundsException");
        // nor do the sides of its board, wider or not, and what was blocked there
        run("board(2, 7); block(0, 1); start(); board(7, 2); block(3, 0); block(2, 1); handicap(2, 0); start() = 12;"
            + "liberties(2, 0) = 1; go eb; liberties(4, 1) = 3; at(0, 1) = '.'");
        run("board(7, 2); rule('w', 1); start(); rule('w', 0); board(3, 7); start() = 21; go ab; liberties(0, 1) = 3;"
            + "go bb; liberties(1, 1) = 3; go cc; stones(2, 2) = 1; liberties(2, 2) = 3");
        // positions of the game before don't count
        for (int ko = 0; ko <= 2; ko++) {
            run("rule('k', " + ko + "); start(); go aa bb cc; start(); barred(0, 0) = '-'; go aa;"
                + "barred(1, 1) = '-'; go bb; barred(2, 2) = '-'");
        }

        says(8, "Returns how many points the board has.");
        run("start() = 25; board(2, 2); start() = 4; board(7, 7); start() = 49; handicap(0, 0); start() = 49;"
            + "block(6, 6); start() = 48");
        run("board(7, 7);" + blockAllBut(7, 7, "dd") + "start() = 1; at(3, 3) = '.'");
    }

    private void startRefused() {
        says(8, "Throws `UnsupportedOperationException` if a handicap has no liberties,");
        run("board(3, 3); block(1, 0); block(0, 1); start() = 7; handicap(0, 0);"
            + "start() throws UnsupportedOperationException; handicap(2, 2);"
            + "start() throws UnsupportedOperationException; board(3, 3); start() = 9");
        run("board(5, 2); handicap(0, 0); handicap(4, 0); block(0, 1); block(1, 0);"
            + "start() throws UnsupportedOperationException; rule('w', 1); start() = 8; stones(0, 0) = 2;"
            + "liberties(0, 0) = 2; rule('w', 0); start() throws UnsupportedOperationException");
        run("board(3, 3); start(); go aa; block(2, 1); block(1, 2); handicap(2, 2);"
            + "start() throws UnsupportedOperationException; moves() = 1; at(0, 0) = 'b'; at(2, 1) = '.'");
        // a stone whose group has a liberty has one, too
        run("handicap(0, 0); handicap(1, 0); handicap(0, 1); start() = 25; liberties(0, 0) = 3");
        run("board(3, 3); handicap(0, 0); handicap(1, 0); handicap(2, 0); handicap(0, 1); handicap(2, 1);"
            + "handicap(0, 2); handicap(1, 2); handicap(2, 2) = 8; start() = 9; play(1, 1) = 8; looks .../.w./...");

        says(8, "or all points are blocked or have handicaps");
        run("board(2, 2);" + blockAllBut(2, 2) + "start() throws UnsupportedOperationException;"
            + "moves() throws IllegalStateException");
        run("board(2, 2); handicap(0, 0); handicap(1, 0); handicap(0, 1); start() = 4; handicap(1, 1);"
            + "start() throws UnsupportedOperationException; looks bb/b.");
        run("board(3, 3); start(); go bb; handicap(0, 0); handicap(1, 0); handicap(2, 0); handicap(0, 1);"
            + "handicap(1, 1); handicap(2, 1); handicap(0, 2); handicap(1, 2); handicap(2, 2) = 9;"
            + "start() throws UnsupportedOperationException; moves() = 1; looks .../.b./...");
        run("board(7, 7);" + blockAllBut(7, 7, "ga", "gg") + "handicap(6, 0);"
            + "start() throws UnsupportedOperationException; handicap(6, 6);"
            + "start() throws UnsupportedOperationException");
        run("board(7, 7);" + blockAllBut(7, 7, "gf", "gg") + "handicap(6, 6); start() = 2; block(6, 5);"
            + "start() throws UnsupportedOperationException; at(6, 5) = '.'");
    }

    private void play() {
        says(9, "Moves.");
        run("board(3, 4); start(); play(2, 3) = 0; at(2, 3) = 'b'; turn() = 'w'; moves() = 1; play(0, 0) = 0;"
            + "at(0, 0) = 'w'; turn() = 'b'; moves() = 2; play(2, 0) = 0; play(0, 3) = 0; looks w.b/.../.../w.b");

        says(9, "Returns how many stones are taken away, own ones too.");
        run("board(2, 2); start(); play(0, 0) = 0; play(1, 0) = 0; pass(); play(0, 1) = 1");
        run("board(3, 3); start(); go ab aa cb ca; play(1, 0) = 2; prisoners('b') = 2");
        run("board(3, 2); rule('s', 1); start(); go ba -- bb aa --; play(0, 1) = 2; looks .b./.b.");
        run("board(7, 7); start();" + fillAllButLast(7, 7) + "play(6, 6) = 48");
        run("board(7, 7); rule('s', 1); start();" + fillAllButLast(7, 7) + "go --; play(6, 6) = 49;"
            + "meanLiberties() throws ArithmeticException");
        // a stone that hangs to a group without other liberties than the ones it takes for it
        run("board(3, 2); start(); go ab aa -- ba bb -- cb; play(2, 0) = 3; stones(2, 0) = 3");
        // four groups, on four sides of the last stone
        run("start(); go ca cb bb bc db dc ac cd ec -- bd -- dd -- ce --; looks ..b../.bwb./bw.wb/.bwb./..b..;"
            + "play(2, 2) = 4; prisoners('b') = 4; looks ..b../.b.b./b.b.b/.b.b./..b..");
    }

    private void playRefused() {
        says(9, "Throws `IllegalStateException` if no game goes on");
        whereNoGameGoesOn("", "play(0, 0)");
        run("play(9, 9) throws IllegalStateException; start(); resign(); play(9, 9) throws IllegalStateException");
        run("board(2, 2); block(1, 1); start(); go aa -- --; play(0, 0) throws IllegalStateException;"
            + "play(1, 1) throws IllegalStateException; play(0, 1) throws IllegalStateException");

        says(9, "Throws `IndexOutOfBoundsException` if there is no such point on the board of the game, blocked or"
            + " not");
        offTheBoard("board(3, 4); block(2, 3); start(); go aa; board(7, 7); ", "play", "");
        run("board(3, 3); block(2, 2); start(); board(2, 2); play(2, 2) throws UnsupportedOperationException;"
            + "play(2, 1) = 0; play(0, 2) = 0");

        says(9, "Throws `UnsupportedOperationException` if it is blocked or barred");
        run("board(2, 2); block(1, 1); start(); play(1, 1) throws UnsupportedOperationException; go aa;"
            + "play(0, 0) throws UnsupportedOperationException; play(1, 1) throws UnsupportedOperationException;"
            + "play(1, 0) throws UnsupportedOperationException; play(0, 1) throws UnsupportedOperationException;"
            + "turn() = 'w'");
        run("board(4, 3); clock(9, 1, 5); start(); go ba ca ab db bc cc cb bb;"
            + "play(2, 1) throws UnsupportedOperationException; moves() = 8; prisoners('w') = 1; prisoners('b') = 0");
        run("start(); block(0, 0); play(0, 0) = 0");
    }

    private void pass() {
        says(10, "Passes.");
        run("start(); pass(); moves() = 1; turn() = 'w'; line() = 3; looks ...../...../...../...../.....;"
            + "play(0, 0) = 0; pass(); moves() = 3; turn() = 'w'; at(0, 0) = 'w'");

        says(10, "Returns whether the game ends by that.");
        run("start(); pass() = false; play(0, 0) = 0; pass() = false; pass() = true; isOver() = true; moves() = 4");
        run("start(); pass() = false; pass() = true; undo() = 1; pass() = true; undo() = 1; play(0, 0) = 0;"
            + "pass() = false");
        run("start(); pass() = false; start(); pass() = false; pass() = true");
        run("board(2, 2);" + blockAllBut(2, 2, "aa") + "start(); pass() = false; pass() = true");

        says(10, "Throws `IllegalStateException` if no game goes on");
        whereNoGameGoesOn("", "pass()");
    }

    private void resign() {
        says(11, "Lets the player whose turn it is resign.");
        run("start(); turn() = 'b'; resign() = 'w'; isOver() = true; moves() = 0; winner() = 'w'; line() = 0");
        run("start(); go aa bb --; turn() = 'w'; resign() = 'b'; moves() = 3; winner() = 'b'; at(0, 0) = 'b'");

        says(11, "Returns who has won, 'b' or 'w'.");
        run("handicap(0, 0); start(); resign() = 'b'; winner() = 'b'");
        run("handicap(0, 0); start(); go --; resign() = 'w'; winner() = 'w'");
        run("board(2, 2); komi(-99); start(); go aa --; margin() = 105; resign() = 'w'; winner() = 'w'");

        says(11, "Throws `IllegalStateException` if no game goes on");
        whereNoGameGoesOn("", "resign()");
    }

    private void undo() {
        says(12, "Takes the last move or pass back,");
        run("board(2, 2); start(); go aa ba --; prisoners('w') = 0; play(0, 1) = 1; undo() = 3; looks bw/..;"
            + "prisoners('w') = 0; turn() = 'w'; undo() = 2; turn() = 'b'; undo() = 1; looks b./..; undo() = 0;"
            + "looks ../..; line() = 0; turn() = 'b'");
        run("board(3, 2); rule('s', 1); start(); go ba -- bb aa --; play(0, 1) = 2; undo() = 5; looks wb./.b.;"
            + "prisoners('b') = 0; barred(0, 1) = '-'; play(0, 1) = 2");
        run("board(4, 3); rule('k', 1); start(); go ba ca ab db bc cc cb bb; undo() = 7; at(2, 1) = 'b';"
            + "barred(1, 1) = '-'");
        run("board(2, 2); rule('p', 1); start(); go aa --; score('b') = 4; undo() = 1; score('b') = 3");

        says(12, "also that which ended the game,");
        run("start(); go aa -- --; isOver() = true; undo() = 2; isOver() = false; turn() = 'b'; winner() throws"
            + " NoSuchElementException; pass() = true; undo() = 2; play(1, 1) = 0");

        says(12, "what was told to be dead being forgotten then;");
        run("board(3, 3); start(); go aa bb -- --; dead(0, 0) = 1; score('w') = 9; undo() = 3; score('w') = 0;"
            + "pass() = true; score('w') = 0; dead(1, 1) = 1; score('b') = 9; score('w') = 0");
        run("board(3, 3); start(); go aa bb -- --; dead(0, 0) = 1; dead(1, 1) = 2; undo(); undo(); go -- --;"
            + "dead(1, 1) = 1");

        says(12, "clocks stay.");
        run("clock(9, 0, 1); start(); think(2) = 7; go --; think(4) = 5; undo() = 0; think(1) = 6; go --;"
            + "think(1) = 4");
        run("clock(0, 2, 5); start(); think(6) = -996; go --; undo() = 0; periods('b') = 1; think(1) = -996; go aa;"
            + "undo() = 0; think(1) = -996; undo() throws UnsupportedOperationException; think(1) = -997");
        run("clock(0, 1, 5); start(); go --; think(3) = -998; go --; undo() = 1; think(1) = -996; undo() = 0; go --;"
            + "think(1) = -997");

        says(12, "Returns how many there are.");
        run("start(); go aa bb -- cc; undo() = 3; undo() = 2; undo() = 1; undo() = 0; moves() = 0");

        says(12, "Throws `UnsupportedOperationException` if there is none,");
        run("undo() throws UnsupportedOperationException; start(); undo() throws UnsupportedOperationException;"
            + "go aa; undo() = 0; undo() throws UnsupportedOperationException");
        run("handicap(0, 0); start(); undo() throws UnsupportedOperationException; at(0, 0) = 'b'");
        run("start(); go aa bb; start(); undo() throws UnsupportedOperationException");

        says(12, "or the game ended otherwise");
        run("start(); resign(); undo() throws UnsupportedOperationException");
        run("start(); go aa bb; resign(); undo() throws UnsupportedOperationException; at(1, 1) = 'w'; winner() = 'w'");
        run("start(); go aa -- --; undo(); resign() = 'w'; undo() throws UnsupportedOperationException");
        run("clock(0, 0, 1); start(); go aa; think(1) = -2000; undo() throws UnsupportedOperationException;"
            + "winner() = 'b'");
    }

    private void barred() {
        says(13, "Returns why a move is barred.");
        run("board(3, 3); block(2, 2); start(); go ba -- ab; barred(1, 0) = 'p'; barred(0, 0) = 's';"
            + "barred(2, 2) = '#'; barred(1, 1) = '-'; moves() = 3; looks .b./b../..#; go --; barred(0, 0) = '-';"
            + "barred(1, 0) = 'p'");
        run("board(4, 3); start(); go ba ca ab db bc cc cb bb; barred(2, 1) = 'k'; barred(0, 0) = '-'");

        says(13, "Returns the letter, '#' if it is blocked, '-' if it is not.");
        run("board(2, 2); block(0, 0); start(); barred(0, 0) = '#'; barred(1, 1) = '-'; block(1, 1);"
            + "barred(1, 1) = '-'; go bb; barred(0, 0) = '#'; barred(1, 1) = 'p'");
        run("board(7, 7);" + blockAllBut(7, 7, "gg") + "start(); barred(6, 6) = 's'; barred(5, 6) = '#';"
            + "barred(0, 0) = '#'");

        says(13, "Throws `IllegalStateException` if no game goes on");
        whereNoGameGoesOn("", "barred(0, 0)");
        run("barred(9, 9) throws IllegalStateException; block(0, 0); start(); resign();"
            + "barred(0, 0) throws IllegalStateException; barred(9, 9) throws IllegalStateException");

        says(13, "Throws `IndexOutOfBoundsException` if there is no such point on the board of the game");
        offTheBoard("board(3, 4); start(); go aa; board(7, 7);", "barred", "");
        run("board(3, 4); start(); board(2, 2); barred(2, 3) = '-'; barred(2, 0) = '-'; barred(0, 3) = '-'");
    }

    private void turn() {
        says(14, "Returns whose turn it is.");
        run("start(); turn() = 'b'; play(0, 0); turn() = 'w'; pass(); turn() = 'b'; pass() = true; undo() = 2;"
            + "turn() = 'b'; undo(); turn() = 'w'; undo(); turn() = 'b'");

        says(14, "Returns 'b' or 'w'.");
        run("handicap(0, 0); start(); turn() = 'w'; pass(); turn() = 'b'; play(1, 1); turn() = 'w'; undo();"
            + "turn() = 'b'; board(5, 5); turn() = 'b'; start(); turn() = 'b'");

        says(14, "Throws `IllegalStateException` if no game goes on");
        whereNoGameGoesOn("", "turn()");
    }
}
