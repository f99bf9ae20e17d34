import java.math.BigInteger;

/** The paragraphs of 'What it is' and 'Terms', sentence by sentence. */
final class TermsSentences extends Sentences {
    private static final String SUICIDE_OF_TWO = "go ba -- bb aa --; ";
    /** Three points in a row, (0, 1), (0, 0) and (1, 0). */
    private static final String ROW_OF_THREE = "board(2, 2); block(1, 1); ";
    /** Two points, (0, 0) and (1, 0), for nothing. */
    private static final String TWO_POINTS = "board(2, 2); block(0, 1); block(1, 1); komi(0); ";
    /** White has just taken black's stone at (2, 1) by one at (1, 1). */
    private static final String KO = "go ba ca ab db bc cc cb bb; ";

    TermsSentences(Document document) {
        super(document);
    }

    @Override
    void all() {
        lastCalls();
        sizes();
        neighbours();
        blockedPoints();
        groups();
        rules();
        komiAndHandicaps();
        gamesKeepWhatWasTold();
        barredByStones();
        barredByKo();
        takenAway();
        ends();
        scores();
        areasOfLife();
        groupsLeftOut();
        readingInMoves();
        answersInReading();
        influence();
        patterns();
        shapes();
        clockNumbers();
        timeThatGoesBy();
        values();
        bestAndLoss();
        exceptions();
        closeWords();
    }

    /** In a row of three points boards come again after six moves, by the ko 0 as often as one likes. */
    private static String longGame(int moves) {
        StringBuilder go = new StringBuilder(ROW_OF_THREE + "start(); go ab");
        String[] again = {"ba", "aa", "ba", "ab", "aa", "ab"};
        for (int i = 1; i < moves; i++) go.append(' ').append(again[(i - 1) % 6]);
        return go.append("; ").toString();
    }

    private void lastCalls() {
        says("What it is", "An object is used for at most 512 calls after it has been made; what later calls answer"
            + " is free.");
        // three calls ahead of the moves, and one behind them
        String before = longGame(508);
        run(before + "moves() = 508");
        run(before + "line() = 2540");
        run(before + "sign(2539) = ']'");
        run(before + "sign(2535) = 'W'");
        run(before + "sign(2540) throws NoSuchElementException");
        run(before + "isSound() = true");
        run(before + "undo() = 507");
        run(before + "turn() = 'b'");
        run(before + "at(1, 0) = 'w'");
        run(before + "barred(0, 0) = '-'");
        run(before + "play(0, 0) = 1");
        run(before + "play(0, 1) = 0");
        run(before + "pass() = false");
        run(before + "resign() = 'w'");
        run(before + "value(2) = -7");
        run(before + "best(2) = 0");
        run(before + "loss(0, 1, 2) = 12");
        // of every six moves behind the first one, two of black take three stones, and two of white
        run(before + "prisoners('b') = 253");
        run(before + "prisoners('w') = 254");
        run(before + "checksum() = " + sum('.', 'w', '.', '#', 253, 254, 508));
        run(longGame(507) + "go --; pass() = true");
        StringBuilder back = new StringBuilder(longGame(254));
        for (int left = 253; left >= 0; left--) back.append("undo() = ").append(left).append("; ");
        run(back + "looks ../.#; undo() throws UnsupportedOperationException");
    }

    private void sizes() {
        says("Boards", "A board has a width and a height, 2 to 7 each,");
        run("board(2, 2) = 25; start() = 4; at(1, 1) = '.'; at(2, 1) throws IndexOutOfBoundsException;"
            + "at(1, 2) throws IndexOutOfBoundsException");
        run("board(7, 7) = 25; start() = 49; at(6, 6) = '.'; at(7, 6) throws IndexOutOfBoundsException;"
            + "at(6, 7) throws IndexOutOfBoundsException");
        run("board(2, 7) = 25; start() = 14; at(1, 6) = '.'; at(2, 6) throws IndexOutOfBoundsException;"
            + "at(1, 7) throws IndexOutOfBoundsException");
        run("board(7, 2) = 25; start() = 14; at(6, 1) = '.'; at(7, 1) throws IndexOutOfBoundsException;"
            + "at(6, 2) throws IndexOutOfBoundsException");
        run("board(1, 2) throws IllegalArgumentException; board(2, 1) throws IllegalArgumentException;"
            + "board(8, 7) throws IllegalArgumentException; board(7, 8) throws IllegalArgumentException");

        says("Boards", "and points, numbered by rows, y times the width and x;");
        run("board(3, 2);" + blockAllBut(3, 2, "bb", "cb") + "start() = 2; best(1) = 4");
        run("board(2, 7);" + blockAllBut(2, 7, "af", "bf") + "handicap(0, 5); start() = 2; best(1) = 11");
        run("board(7, 2);" + blockAllBut(7, 2, "ab", "bb") + "handicap(1, 1); start() = 2; best(1) = 7");
        run("board(7, 7);" + blockAllBut(7, 7, "fg", "gg") + "handicap(5, 6); start() = 2; best(1) = 48");
        run("board(7, 7);" + blockAllBut(7, 7, "aa", "ba") + "handicap(1, 0); start() = 2; best(1) = 0");

        says("Boards", "some can be blocked, ahead of a game.");
        run("board(2, 2); start() = 4; block(0, 0) = 1; looks ../..; play(0, 0) = 0; start() = 3; looks #./..");
        run("board(2, 2); start() = 4; looks ../..");
    }

    private void neighbours() {
        says("Boards", "Neighbours are beside and above each other;");
        run("board(3, 3); start(); play(1, 1) = 0; liberties(1, 1) = 4; play(0, 0) = 0; liberties(0, 0) = 2;"
            + "play(2, 1) = 0; stones(2, 1) = 2; liberties(2, 1) = 5");
        run("board(3, 3); start(); go ba; liberties(1, 0) = 3; go ab; liberties(0, 1) = 3; go bc; liberties(1, 2) = 3;"
            + "go cb; liberties(2, 1) = 3");
        run("board(3, 3); start(); go aa -- bb; stones(0, 0) = 1; stones(1, 1) = 1");
        run("board(3, 3); start(); go ca -- bb; stones(2, 0) = 1; stones(1, 1) = 1");
        // the end of a row is not beside the next row's beginning
        run("board(3, 3); start(); go ca -- ab; stones(2, 0) = 1; liberties(2, 0) = 2; liberties(0, 1) = 3");
        run("board(7, 7); start(); go ga -- ab; stones(6, 0) = 1; liberties(6, 0) = 2; liberties(0, 1) = 3");
        run("board(3, 3); start(); go aa -- ca -- ac; stones(0, 0) = 1; liberties(0, 0) = 2; liberties(2, 0) = 2");

        says("Boards", "by the rule 'w' the last column is beside the first one, too, on a board 3 wide or more.");
        run("board(3, 2); rule('w', 1); start(); go aa --; liberties(0, 0) = 3; go ca; stones(2, 0) = 2;"
            + "liberties(0, 0) = 3");
        run("board(3, 2); rule('w', 0); start(); go aa --; liberties(0, 0) = 2; go ca; stones(2, 0) = 1");
        run("board(7, 4); rule('w', 1); start(); go ac; liberties(0, 2) = 4; go -- gd; stones(0, 2) = 1; go -- gc;"
            + "stones(0, 2) = 3");
        run("board(7, 7); rule('w', 1); start(); go gg; liberties(6, 6) = 3; go ag; liberties(0, 6) = 2;"
            + "liberties(6, 6) = 2; go --; play(1, 6) = 0; liberties(0, 6) = 3");
        run("board(2, 2); rule('w', 1); start(); go aa; liberties(0, 0) = 2; go -- ba; stones(0, 0) = 2;"
            + "liberties(0, 0) = 2");
        // rows never are
        run("board(3, 3); rule('w', 1); start(); go ba -- bc; stones(1, 0) = 1; liberties(1, 0) = 3");
        run("board(3, 3); rule('w', 1); start(); go aa -- cb; stones(0, 0) = 1; go -- cc; stones(0, 0) = 1");
        run("board(3, 2); block(2, 0); rule('w', 1); start(); go aa; liberties(0, 0) = 2");
        run("board(3, 2); rule('w', 1); start(); go ab aa; play(1, 0) = 0; go --; play(2, 0) = 1; at(0, 0) = '.'");
        run("board(3, 2); rule('w', 0); start(); go ab aa; play(1, 0) = 1");
        run("board(4, 2); rule('w', 1); start(); go ba -- bb ca; score('b') = 0; go -- cb -- aa; score('w') = 0");
    }

    private void blockedPoints() {
        says("Boards", "What is blocked is no point for all that follows.");
        run("board(2, 2); block(1, 1) = 1; start() = 3; at(1, 1) = '#'; barred(1, 1) = '#';"
            + "play(1, 1) throws UnsupportedOperationException; play(1, 0) = 0; liberties(1, 0) = 1;"
            + "fullShare() = 0.33333334; stones(1, 1) throws NoSuchElementException;"
            + "liberties(1, 1) throws NoSuchElementException; isAlive(1, 1) throws NoSuchElementException;"
            + "isCaught(1, 1, 1) throws NoSuchElementException; score('b') = 2; found() = 3");
        run("board(3, 2); block(1, 0); block(1, 1); start() = 4; go aa; score('b') = 1; score('w') = 0; go ca;"
            + "score('w') = 1; stones(0, 0) = 1; stones(2, 0) = 1");
        run("board(3, 2); block(1, 0); block(1, 1); start(); go aa -- ca; stones(0, 0) = 1; stones(2, 0) = 1;"
            + "isCaught(0, 0, 1) = true; go ab; looks .#b/w#.");
        run("board(3, 3); rule('a', 1); block(1, 1); start() = 8; go aa; score('b') = 8; isSound() = true");
    }

    private void groups() {
        says("Boards", "A group is stones of one colour that hang together; its liberties are the empty points next"
            + " to it.");
        run("board(3, 3); start(); go aa -- ba -- bb; stones(0, 0) = 3; stones(1, 1) = 3; liberties(0, 0) = 4");
        run("board(2, 2); start(); go aa ba; stones(0, 0) = 1; stones(1, 0) = 1; liberties(0, 0) = 1;"
            + "liberties(1, 0) = 1");
        run("board(7, 7); start();" + fillAllButLast(7, 7) + "stones(0, 0) = 48; liberties(0, 0) = 1;"
            + "liberties(5, 6) = 1; meanLiberties() = 1.0; stones(6, 6) throws NoSuchElementException");
        // a way from the first point to the last one that turns in each row
        run("board(7, 7); start(); go aa -- ba -- ca -- da -- ea -- fa -- ga -- gb -- gc -- fc -- ec -- dc -- cc --"
            + " bc -- ac -- ad -- ae -- be -- ce -- de -- ee -- fe -- ge -- gf -- gg -- fg -- eg -- dg -- cg -- bg --"
            + " ag; stones(0, 0) = 31; stones(0, 6) = 31; liberties(3, 4) = 18");
    }

    private void rules() {
        says("Rules", "Rules, numbers told ahead of a game, all 0 at first:");
        run("rule('s', 0) = 0; rule('k', 0) = 0; rule('a', 0) = 0; rule('p', 0) = 0; rule('w', 0) = 0");

        says("Rules", "'s' 1 if suicide is allowed,");
        run("board(3, 2); start();" + SUICIDE_OF_TWO + "barred(0, 1) = 's'");
        run("board(3, 2); rule('s', 1); start();" + SUICIDE_OF_TWO + "barred(0, 1) = '-'; play(0, 1) = 2");
        run("rule('s', -1) throws IllegalArgumentException; rule('s', 2) throws IllegalArgumentException");

        says("Rules", "'k' the ko, 0 to 2,");
        run("rule('k', -1) throws IllegalArgumentException; rule('k', 3) throws IllegalArgumentException;"
            + "rule('k', 2) = 0; rule('k', 1) = 2; rule('k', 0) = 1");

        says("Rules", "'a' 1 for scores by area, 0 by territory,");
        run("board(2, 2); start(); go aa; score('b') = 3; rule('a', 1) = 0; start(); go aa; score('b') = 4;"
            + "rule('a', 0) = 1; start(); go aa; score('b') = 3");
        run("rule('a', -1) throws IllegalArgumentException; rule('a', 2) throws IllegalArgumentException");

        says("Rules", "'p' 1 if a pass costs a stone,");
        run("board(2, 2); start(); go --; score('w') = 0; score('b') = 0; rule('p', 1) = 0; start(); go --;"
            + "score('w') = 1; score('b') = 0; go --; score('w') = 1; score('b') = 1");
        run("rule('p', -1) throws IllegalArgumentException; rule('p', 2) throws IllegalArgumentException");

        says("Rules", "'w' as told.");
        run("board(3, 2); rule('w', 1) = 0; start(); go aa; liberties(0, 0) = 3; rule('w', 0) = 1; start(); go aa;"
            + "liberties(0, 0) = 2");
        run("rule('w', -1) throws IllegalArgumentException; rule('w', 2) throws IllegalArgumentException");
    }

    private void komiAndHandicaps() {
        says("Rules", "Komi is in halves, -99 to 99, 13 at first, for white.");
        run("start(); margin() = -13; komi(-99) = 13; start(); margin() = 99; komi(99) = -99; start(); margin() = -99;"
            + "komi(-100) throws IllegalArgumentException; komi(100) throws IllegalArgumentException; komi(0) = 99;"
            + "start(); margin() = 0");

        says("Rules", "Handicaps are black stones put ahead of a game;");
        run("handicap(4, 4) = 1; start(); at(4, 4) = 'b'; stones(4, 4) = 1; moves() = 0; line() = 0;"
            + "prisoners('w') = 0; undo() throws UnsupportedOperationException; isSound() = true");

        says("Rules", "with one or more white moves first, otherwise black.");
        run("start(); turn() = 'b'");
        run("handicap(0, 0) = 1; start(); turn() = 'w'; go --; turn() = 'b'; go bb; turn() = 'w'; sign(0) = 'W'");
        run("handicap(0, 0); handicap(1, 0); start(); turn() = 'w'");
        run("handicap(0, 0); handicap(1, 0); handicap(2, 0); handicap(3, 0); handicap(4, 0); handicap(0, 2);"
            + "handicap(1, 2); handicap(2, 2); handicap(3, 2) = 9; start(); turn() = 'w';"
            + "looks bbbbb/...../bbbb./...../.....");
    }

    private void gamesKeepWhatWasTold() {
        says("Rules", "A game keeps board, rules, komi and handicaps as they were as it began; what is told later is"
            + " of later ones.");
        run("board(3, 3); start(); board(2, 2) = 9; play(2, 2) = 0; at(3, 0) throws IndexOutOfBoundsException;"
            + "start() = 4; at(2, 2) throws IndexOutOfBoundsException");
        run("board(3, 3); start(); board(7, 7); at(3, 0) throws IndexOutOfBoundsException; start() = 49;"
            + "at(3, 0) = '.'");
        run("start(); handicap(0, 0) = 1; at(0, 0) = '.'; turn() = 'b'; start(); at(0, 0) = 'b'; turn() = 'w';"
            + "board(5, 5); at(0, 0) = 'b'; go bb; isSound() = true; start(); at(0, 0) = '.'");
        run("board(3, 2); start(); rule('s', 1);" + SUICIDE_OF_TWO + "barred(0, 1) = 's'; start();" + SUICIDE_OF_TWO
            + "barred(0, 1) = '-'; rule('s', 0); barred(0, 1) = '-'");
        run(ROW_OF_THREE + "start(); rule('k', 1); go ab ba aa ba; barred(0, 1) = '-'; start(); go ab ba aa ba;"
            + "barred(0, 1) = 'k'; rule('k', 0); barred(0, 1) = 'k'");
        run("board(2, 2); start(); rule('a', 1); go aa; score('b') = 3; start(); go aa; score('b') = 4; rule('a', 0);"
            + "score('b') = 4");
        run("board(2, 2); start(); rule('p', 1); go --; score('w') = 0; start(); go --; score('w') = 1; rule('p', 0);"
            + "score('w') = 1");
        run("board(3, 2); start(); rule('w', 1); go aa; liberties(0, 0) = 2; influence(2, 0) = 2; start(); go aa;"
            + "liberties(0, 0) = 3; influence(2, 0) = 4; rule('w', 0); liberties(0, 0) = 3; influence(2, 0) = 4");
        run("start(); komi(5); margin() = -13; value(0) = -13; start(); margin() = -5; komi(6); value(0) = -5");
        // a beginning that is refused is none
        run("board(2, 2); start(); komi(5); block(0, 0); block(1, 0); block(0, 1); block(1, 1);"
            + "start() throws UnsupportedOperationException; margin() = -13; looks ../..");
    }

    private void barredByStones() {
        says("Moves", "A move of a stone is barred by the first of these:");
        run("board(3, 3); rule('k', 1); start(); go ba -- ab; barred(1, 0) = 'p'; barred(0, 0) = 's';"
            + "barred(1, 1) = '-'");
        run("board(3, 2); rule('k', 1); start();" + SUICIDE_OF_TWO + "barred(0, 1) = 's'; barred(0, 0) = 'p'");
        run("board(3, 2); rule('k', 1); rule('s', 1); start();" + SUICIDE_OF_TWO + "barred(0, 1) = 'k'");

        says("Moves", "'p' the point is not empty;");
        run("board(2, 2); start(); barred(0, 0) = '-'; go aa; barred(0, 0) = 'p'; barred(0, 1) = '-'; go ba;"
            + "barred(0, 0) = 'p'; barred(1, 0) = 'p'; play(0, 0) throws UnsupportedOperationException;"
            + "play(1, 0) throws UnsupportedOperationException; barred(0, 1) = '-'");
        run("board(3, 3); handicap(1, 1); start(); barred(1, 1) = 'p'; go -- --; undo(); barred(1, 1) = 'p'");

        says("Moves", "'s' behind it, and behind taking away all groups of the other colour without liberties, its"
            + " own group has none:");
        run("board(3, 2); start(); go ba -- bb; barred(0, 0) = '-'; go aa --; barred(0, 1) = 's'");
        run("board(3, 3); start(); go ba -- ab; barred(0, 0) = 's'; go --; barred(0, 0) = '-'; play(0, 0) = 0");
        run("board(3, 2); start(); go ab aa -- ba bb; barred(2, 0) = '-'; go -- cb; barred(2, 0) = '-'; play(2, 0) = 3;"
            + "looks www/...");
        run("board(3, 3); start(); go ab aa cb ca; barred(1, 0) = '-'; play(1, 0) = 2");

        says("Moves", "without suicide, or if that group is this stone alone;");
        run("board(3, 2); start();" + SUICIDE_OF_TWO + "barred(0, 1) = 's';"
            + "play(0, 1) throws UnsupportedOperationException");
        run("board(3, 2); rule('s', 1); start();" + SUICIDE_OF_TWO + "barred(0, 1) = '-'");
        run("board(3, 3); rule('s', 1); start(); go ba -- ab; barred(0, 0) = 's';"
            + "play(0, 0) throws UnsupportedOperationException");
        run("board(2, 2);" + blockAllBut(2, 2, "bb") + "rule('s', 1); start() = 1; barred(1, 1) = 's'; go --;"
            + "barred(1, 1) = 's'");
        run("board(7, 7); rule('s', 1); start();" + fillAllButLast(7, 7) + "go --; barred(6, 6) = '-'");
        run("board(7, 7); start();" + fillAllButLast(7, 7) + "go --; barred(6, 6) = 's'");
    }

    private void barredByKo() {
        says("Moves", "'k' the position behind it is one that is not to come again: by the ko 0 that ahead of the"
            + " last move, a pass being one,");
        run("board(4, 3); start();" + KO + "barred(2, 1) = 'k'; play(2, 1) throws UnsupportedOperationException;"
            + "go aa da; barred(2, 1) = '-'; undo(); undo(); barred(2, 1) = 'k'; undo(); barred(1, 1) = '-';"
            + "play(1, 1) = 1");
        run("board(3, 2); rule('s', 1); start();" + SUICIDE_OF_TWO + "barred(0, 1) = '-'; play(0, 1) = 2;"
            + "isSound() = true");
        run(ROW_OF_THREE + "start(); go ab ba aa ba; looks .w/.#; barred(0, 1) = '-'; go ab aa; looks ww/.#;"
            + "barred(0, 1) = '-'");

        says("Moves", "by 1 any earlier one of the game,");
        run("board(4, 3); rule('k', 1); start();" + KO + "barred(2, 1) = 'k'; go aa da; barred(2, 1) = '-'");
        run(ROW_OF_THREE + "rule('k', 1); start(); go ab ba aa ba; barred(0, 1) = 'k';"
            + "play(0, 1) throws UnsupportedOperationException; undo(); barred(1, 0) = '-'");
        run("board(3, 2); rule('s', 1); rule('k', 1); start();" + SUICIDE_OF_TWO + "barred(0, 1) = 'k'");

        says("Moves", "by 2 any earlier one with the same player to move.");
        run("board(4, 3); rule('k', 2); start();" + KO + "barred(2, 1) = 'k'; go aa da; barred(2, 1) = '-'");
        run(ROW_OF_THREE + "rule('k', 2); start(); go ab ba aa ba; barred(0, 1) = '-'; go ab aa; barred(0, 1) = 'k';"
            + "play(0, 1) throws UnsupportedOperationException; isSound() = true");
        run("board(3, 2); rule('s', 1); rule('k', 2); start();" + SUICIDE_OF_TWO + "barred(0, 1) = '-'");

        says("Moves", "The beginning is a position, too,");
        for (int ko = 0; ko <= 2; ko++) {
            run(TWO_POINTS + "handicap(0, 0); rule('k', " + ko + "); start(); play(1, 0) = 1; barred(0, 0) = 'k'");
        }
        String emptied = "rule('s', 1); start(); go aa -- ab --; ";
        run(ROW_OF_THREE + "rule('k', 0); " + emptied + "barred(1, 0) = '-'; play(1, 0) = 3");
        run(ROW_OF_THREE + "rule('k', 1); " + emptied + "barred(1, 0) = 'k'");
        run(ROW_OF_THREE + "rule('k', 2); " + emptied + "barred(1, 0) = '-'; play(1, 0) = 3; looks ../.#;"
            + "isSound() = true");

        says("Moves", "and each pass makes one.");
        run(ROW_OF_THREE + "rule('k', 2); rule('s', 1); start(); go -- ab; play(0, 0) = 1; go -- ab --;"
            + "barred(1, 0) = 'k'");
        run(ROW_OF_THREE + "rule('k', 0); rule('s', 1); start(); go -- ab; play(0, 0) = 1; go -- ab --;"
            + "barred(1, 0) = '-'");
    }

    private void takenAway() {
        says("Moves", "First groups of the other colour without liberties are taken away, then, by suicide, the own"
            + " one;");
        run("board(3, 2); rule('s', 1); start(); go ab aa -- ba bb -- cb; play(2, 0) = 3; looks www/...");
        run("board(3, 2); rule('s', 1); start();" + SUICIDE_OF_TWO + "play(0, 1) = 2; looks .b./.b.");
        run("board(3, 3); start(); go ab aa cb ca; play(1, 0) = 2; looks .b./b.b/...");
        run("board(7, 7); start();" + fillAllButLast(7, 7) + "play(6, 6) = 48; at(6, 6) = 'w'; at(0, 0) = '.';"
            + "fullShare() = " + 1f / 49f);

        says("Moves", "all that are taken are prisoners of the other side.");
        run("board(2, 2); start(); go aa ba -- ab; prisoners('w') = 1; prisoners('b') = 0; looks .w/w.");
        run("board(2, 2); start(); go -- aa ba -- ab; prisoners('b') = 1; prisoners('w') = 0");
        run("board(3, 2); rule('s', 1); start();" + SUICIDE_OF_TWO + "play(0, 1) = 2; prisoners('b') = 2;"
            + "prisoners('w') = 0");
        run("board(7, 7); start();" + fillAllButLast(7, 7) + "play(6, 6) = 48; prisoners('w') = 48; prisoners('b') = 0;"
            + "isSound() = true");
        run("board(7, 7); rule('s', 1); start();" + fillAllButLast(7, 7) + "go --; play(6, 6) = 49;"
            + "prisoners('w') = 49; prisoners('b') = 0; score('w') = 49; undo() = 96; prisoners('w') = 0;"
            + "isSound() = true");
    }

    private void ends() {
        says("Moves", "Two passes, one behind the other, end the game.");
        run("start(); pass() = false; isOver() = false; pass() = true; isOver() = true;"
            + "play(0, 0) throws IllegalStateException");
        run("start(); go -- aa; pass() = false; isOver() = false; go bb; pass() = false; pass() = true; moves() = 6");
        run("start(); go aa --; undo() = 1; pass() = false; pass() = true; undo() = 2; pass() = true");
        run("start(); pass() = false; undo() = 0; pass() = false; isOver() = false; start(); pass() = false");
        run("handicap(0, 0); start(); pass() = false; pass() = true");

        says("Moves", "Who resigns, or runs out of time, has lost.");
        run("start(); resign() = 'w'; winner() = 'w'; isOver() = true; play(0, 0) throws IllegalStateException");
        run("komi(99); start(); go --; resign() = 'b'; winner() = 'b'; margin() = -99");
        run("board(3, 3); start(); go bb -- aa; undo() = 2; resign() = 'w'; winner() = 'w'; margin() = 3");
        run("clock(0, 0, 1); start(); think(1) = -2000; winner() = 'w'; isOver() = true;"
            + "pass() throws IllegalStateException");
        run("clock(0, 0, 1); komi(99); start(); go --; think(1) = -2000; winner() = 'b'; margin() = -99");
    }

    private void scores() {
        says("Scores", "Behind two passes groups can be told to be dead, and alive again.");
        run("board(3, 3); start(); go bb aa --; dead(1, 1) throws UnsupportedOperationException; go --; dead(0, 0) = 1;"
            + "dead(0, 0) = 0; dead(1, 1) = 1; dead(0, 0) = 2; dead(1, 1) = 1; dead(0, 0) = 0");

        says("Scores", "Regions are empty points, and dead stones, that hang together;");
        String columns = "board(4, 2); start(); go aa ca ab cb -- --; ";
        run(columns + "score('b') = 0; score('w') = 2; dead(2, 0) = 2; score('b') = 8; score('w') = 0; dead(2, 1) = 0;"
            + "score('w') = 2");
        run("board(4, 2); rule('w', 1); start(); go aa ca ab cb -- --; score('b') = 0; score('w') = 0; dead(0, 0) = 2;"
            + "score('w') = 8");
        run("board(3, 3); start(); go ba cc ab -- --; score('b') = 1; score('w') = 0");

        says("Scores", "a region is of a colour if stones of this colour alone that are not dead are next to it, and"
            + " some are.");
        run("start(); score('b') = 0; score('w') = 0; go -- --; score('b') = 0; score('w') = 0");
        run("board(3, 3); start(); go bb -- --; score('b') = 8; score('w') = 0; dead(1, 1) = 1; score('b') = 0;"
            + "score('w') = 1");
        run("board(3, 3); start(); go bb aa -- --; score('b') = 0; score('w') = 0; dead(0, 0) = 1; score('b') = 9;"
            + "score('w') = 0; dead(1, 1) = 2; score('b') = 1; score('w') = 1; dead(0, 0) = 1; score('w') = 9;"
            + "score('b') = 0");

        says("Scores", "By area a side has its stones that are not dead and all points of its regions;");
        run("board(3, 3); rule('a', 1); start(); go bb aa -- --; score('b') = 1; score('w') = 1; dead(0, 0) = 1;"
            + "score('b') = 9; score('w') = 0; dead(1, 1) = 2; score('b') = 0; score('w') = 0");
        run("board(2, 2); rule('a', 1); rule('p', 1); start(); go aa ba -- ab; score('w') = 4; score('b') = 0;"
            + "go -- --; score('w') = 4; score('b') = 0");
        run("board(7, 7); rule('a', 1); start(); go aa; score('b') = 49; score('w') = 0");
        run("board(7, 7); rule('a', 1); start();" + fillAllButLast(7, 7) + "score('b') = 49; score('w') = 0");

        says("Scores", "by territory the points of its regions, its prisoners, dead stones of the other side being"
            + " prisoners, too, and a stone for each pass of the other side that costs.");
        run("board(2, 2); start(); go aa ba -- ab; score('w') = 3; score('b') = 0");
        run("board(2, 2); rule('p', 1); start(); go aa ba -- ab; score('w') = 4; score('b') = 0; go -- --;"
            + "score('w') = 5; score('b') = 1; dead(1, 0) = 1; score('b') = 2; score('w') = 6; undo(); undo();"
            + "score('w') = 4; score('b') = 0");
        run("board(3, 3); rule('p', 1); handicap(1, 1); start(); go --; score('b') = 9; score('w') = 0; go --;"
            + "score('w') = 1");
        run(columns + "dead(0, 1) = 2; score('w') = 8; score('b') = 0; dead(2, 0) = 4; score('w') = 2; score('b') = 2");

        says("Scores", "The margin is twice what black has more than white, less the komi.");
        run("board(2, 2); rule('p', 1); start(); go aa ba -- ab; margin() = -21; komi(0); margin() = -21");
        run("board(7, 7); rule('a', 1); komi(-99); start(); go aa; margin() = 197");
        run("board(7, 7); rule('a', 1); komi(99); start(); go -- aa; margin() = -197");
        run("komi(0); start(); margin() = 0; go aa bb; margin() = 0; go -- --; dead(0, 0) = 1; margin() = -50;"
            + "dead(1, 1) = 2; margin() = 0; dead(0, 0) = 1; margin() = 50");
    }

    private void areasOfLife() {
        says("Life", "For a colour, areas are points without its stones that hang together, with stones of the other"
            + " colour or none.");
        run("board(3, 2); start(); go ba -- bb; isAlive(1, 0) = true; safe('b') = 6; safe('w') = 0");
        run("board(3, 2); start(); go ba aa bb; isAlive(1, 1) = true; safe('b') = 6; isAlive(0, 0) = false;"
            + "safe('w') = 0");
        run("board(3, 2); start(); go -- ba -- bb; isAlive(1, 0) = true; safe('w') = 6; safe('b') = 0");
        run("start(); safe('b') = 0; safe('w') = 0");
        // by the rule 'w' both columns beside it are one area
        run("board(3, 2); rule('w', 1); start(); go ba -- bb; isAlive(1, 0) = false; safe('b') = 0");

        says("Life", "An area is vital to a group if each empty point of it is a liberty of this group.");
        run("board(4, 2); start(); go ba -- bb; isAlive(1, 0) = false; safe('b') = 0");
        run("board(4, 2); start(); go ba da bb db; isAlive(1, 0) = true; safe('b') = 8; isAlive(3, 0) = false");
        run("board(4, 2); start(); go ba da bb; isAlive(1, 0) = false; safe('b') = 0");
        run("board(5, 2); start(); go ba da bb db; isAlive(1, 0) = false; isAlive(3, 1) = false; safe('b') = 0;"
            + "safe('w') = 0");
    }

    private void groupsLeftOut() {
        says("Life", "Of all groups and areas of the colour, groups to which fewer than two of the areas left are"
            + " vital are left out,");
        run("board(2, 2); start(); go aa; isAlive(0, 0) = false; safe('b') = 0; go bb; isAlive(0, 0) = false;"
            + "isAlive(1, 1) = false");
        run("board(2, 2); start(); go aa -- bb; isAlive(0, 0) = true; isAlive(1, 1) = true; safe('b') = 4");
        run("board(3, 3); start(); go bb; isAlive(1, 1) = false");
        run(ROW_OF_THREE + "start(); go aa; isAlive(0, 0) = true; safe('b') = 3");

        says("Life", "and areas next to a group that was left out, again and again.");
        String columns = "start(); go ba -- bb -- bc -- da -- db -- dc";
        run("board(7, 3); " + columns + "; isAlive(3, 1) = false; isAlive(1, 1) = false; safe('b') = 0");
        run("board(5, 3); " + columns + "; isAlive(3, 1) = true; isAlive(1, 1) = true; safe('b') = 15");
        run("board(6, 3); " + columns + " -- fa -- fb -- fc; isAlive(5, 0) = false; isAlive(3, 0) = false;"
            + "isAlive(1, 0) = false; safe('b') = 0");
        run("board(7, 3); " + columns + " -- fa -- fb -- fc; isAlive(5, 0) = true; isAlive(1, 0) = true;"
            + "safe('b') = 21");
        run("board(6, 3); rule('w', 1); " + columns + " -- fa -- fb -- fc; isAlive(5, 0) = true; safe('b') = 18");

        says("Life", "The groups that stay are alive;");
        run("board(7, 3); " + columns + " -- cb -- gc; isAlive(1, 1) = true; isAlive(3, 2) = true;"
            + "isAlive(6, 2) = false");

        says("Life", "safe for a colour are the stones of these, and the points of areas that stay and are vital to"
            + " one of them.");
        run("board(7, 3); " + columns + " -- cb; isAlive(1, 1) = true; safe('b') = 12; safe('w') = 0");
        run("board(7, 3); " + columns + " -- cb aa; isAlive(1, 1) = true; safe('b') = 12; safe('w') = 0");
        run("board(7, 3); " + columns + " -- cb -- gc; safe('b') = 12");
        // what lies between two groups is vital to neither of them, though to both together it would be
        run("board(3, 6); start(); go ba -- ab -- bb -- cb -- ae -- be -- ce -- bf; isAlive(1, 0) = true;"
            + "isAlive(1, 5) = true; safe('b') = 12");
        // a stone on the first point, then one on the last, with both other points its own
        run("board(2, 2); block(1, 1); start(); go aa; isAlive(0, 0) = true; safe('b') = 3");
        run("board(2, 2); block(0, 0); start(); go bb; isAlive(1, 1) = true; safe('b') = 3");
    }

    private void readingInMoves() {
        String rows = "board(4, 4); start(); go aa ac ba bc ca cc da dc; ";
        says("Reading", "A group can be caught in so many moves, 1 to 4,");
        run(rows + "isCaught(0, 0, 4) = true; isCaught(0, 0, 1) = false;"
            + "isCaught(0, 0, 0) throws IllegalArgumentException; isCaught(0, 0, 5) throws IllegalArgumentException");

        says("Reading", "if the other side, moving first, can take it by moves on its liberties alone:");
        run(rows + "turn() = 'b'; isCaught(0, 0, 4) = true; go --; turn() = 'w'; isCaught(0, 0, 4) = true");
        run("board(7, 7); start(); go cc bc -- cb; isCaught(2, 2, 2) = false; isCaught(2, 2, 4) = false");
        run("start(); go aa ba -- ab; undo(); isCaught(0, 0, 1) = true; isCaught(1, 0, 1) = false");
        run("start(); go -- aa ba; isCaught(0, 0, 1) = true; isCaught(1, 0, 1) = false");
        // the one move that does it is on the board's first point, then on its last one
        String round = "board(5, 3); rule('w', 1); start(); ";
        run(round + "go ba bb -- cb -- da; isCaught(1, 0, 1) = false; isCaught(1, 0, 2) = true");
        run(round + "go dc db -- cb -- bc; isCaught(3, 2, 1) = false; isCaught(3, 2, 2) = true");

        says("Reading", "with one liberty by taking it;");
        for (int moves = 1; moves <= 4; moves++) {
            run("start(); go aa ba; isCaught(0, 0, " + moves + ") = true");
            run("board(2, 2); start(); go aa -- ba -- ab; isCaught(0, 0, " + moves + ") = true");
            run("board(7, 7); start();" + fillAllButLast(7, 7) + "isCaught(0, 0, " + moves + ") = true");
        }

        says("Reading", "otherwise, with no more liberties than moves, if some such move has no answer;");
        run(rows + "liberties(0, 0) = 4; isCaught(0, 0, 3) = false; isCaught(0, 0, 4) = true; go -- ab;"
            + "liberties(0, 0) = 3; isCaught(0, 0, 2) = false; isCaught(0, 0, 3) = true; go -- db;"
            + "liberties(0, 0) = 2; isCaught(0, 0, 1) = false; isCaught(0, 0, 2) = true; go -- bb;"
            + "liberties(0, 0) = 1; isCaught(0, 0, 1) = true");
        run("board(5, 5); start(); go ba bb; isCaught(1, 0, 1) = false; isCaught(1, 0, 2) = true;"
            + "isCaught(1, 1, 4) = false");
        run("board(5, 5); start(); go ca cb; isCaught(2, 0, 2) = false; isCaught(2, 0, 3) = true;"
            + "isCaught(2, 0, 4) = true");
        run("board(7, 7); start(); go dd; liberties(3, 3) = 4; isCaught(3, 3, 4) = false; isCaught(3, 3, 3) = false");
    }

    private void answersInReading() {
        says("Reading", "answers are to pass,");
        // two eyes, and a point beside white: to fill an eye would be worse than to pass
        String eyes = "board(4, 4); start(); go ba bc da cc ab dc bb -- cb -- db; ";
        run(eyes + "looks .b.b/bbbb/.www/....; liberties(0, 1) = 3; isCaught(0, 1, 3) = false;"
            + "isCaught(0, 1, 4) = false");
        // who has passed is to be caught by the moves that are left, not by one more
        run("board(3, 2); start(); go ba ab ca; liberties(1, 0) = 3; isCaught(1, 0, 3) = false;"
            + "isCaught(1, 0, 4) = false");

        says("Reading", "a move on a liberty of the group,");
        run("board(5, 5); start(); go ca cb; isCaught(2, 0, 2) = false");
        run("board(5, 5); start(); go ba bb; isCaught(1, 0, 2) = true; go ca; isCaught(1, 0, 2) = false");
        // the one answer is on the board's first point, then on its last one
        run("start(); go ba bb ab; isCaught(1, 0, 2) = true; go -- ac; isCaught(1, 0, 2) = false");
        run("start(); go de dd ed; isCaught(3, 4, 2) = true; go -- ec; isCaught(3, 4, 2) = false");

        says("Reading", "or one that takes a group next to it which has one liberty.");
        String beside = "board(4, 3); block(1, 1); start(); go ba dc; ";
        run(beside + "isCaught(1, 0, 2) = true; go cb; isCaught(1, 0, 2) = false");
        run(beside + "go da; isCaught(1, 0, 2) = false");
        // what it takes is the board's first point, then its last one
        run("start(); go ba aa ca bb -- cc -- db; isCaught(1, 0, 2) = false; go -- ab; isCaught(1, 0, 2) = true");
        run("start(); go de ee ce dd -- cc -- bd; isCaught(3, 4, 2) = false; go -- ed; isCaught(3, 4, 2) = true");
        // white could get out by taking (0, 1) and (0, 2) at (1, 2), but these are not next to it
        run("handicap(4, 4); start(); go aa bd dd ec de be cc cd da ab ba eb ad ac bb -- ed --;"
            + "looks ww.w./bw..b/b.w.b/wbbww/.b.w.; isCaught(3, 4, 4) = true");
        // it could take a stone, too, but only a move on its liberties gets it out
        run("board(4, 2); start(); go ba ab bb; looks .b../wb..; isCaught(1, 0, 3) = false");
        run("board(5, 2); start(); go aa cb; looks b..../..w..; isCaught(2, 1, 4) = false");

        says("Reading", "In reading suicide is not allowed,");
        for (int suicide = 0; suicide <= 1; suicide++) {
            String allowed = "rule('s', " + suicide + "); start(); ";
            run(allowed + "go ba bb da -- cb; isCaught(1, 0, 2) = false");
            run(allowed + "go aa bb -- ac; isCaught(0, 0, 2) = true");
        }

        says("Reading", "and kos are not looked at.");
        run("board(4, 3); start();" + KO + "barred(2, 1) = 'k'; isCaught(1, 1, 1) = true");
        run("board(4, 3); rule('k', 1); start();" + KO + "isCaught(1, 1, 1) = true; isCaught(1, 1, 4) = true");
    }

    private void influence() {
        says("Influence", "Each stone gives 8 to its own point, and half of that, cut, for each step further,");
        run("board(7, 2); start(); go aa; influence(0, 0) = 8; influence(1, 0) = 4; influence(2, 0) = 2;"
            + "influence(3, 0) = 1; influence(4, 0) = 0; influence(5, 0) = 0; influence(6, 0) = 0");
        run("board(7, 7); start(); influence(0, 0) = 0; go aa; influence(6, 6) = 0; influence(0, 0) = 8; go gg;"
            + "influence(6, 6) = -8; influence(3, 3) = 0");
        run("board(7, 7); start();" + fillAllButLast(7, 7) + "influence(3, 3) = 52; influence(6, 6) = 18;"
            + "influence(0, 0) = 26");

        says("Influence", "in columns and rows,");
        run("board(3, 7); start(); go aa; influence(0, 1) = 4; influence(0, 3) = 1; influence(0, 4) = 0;"
            + "influence(1, 1) = 2; influence(2, 1) = 1; influence(1, 2) = 1; influence(2, 2) = 0;"
            + "influence(2, 0) = 2");

        says("Influence", "whatever is between;");
        run("board(7, 2); block(1, 0); block(2, 0); start(); go aa; influence(1, 0) = 4; influence(3, 0) = 1");
        run("board(7, 2); start(); go aa ba; influence(2, 0) = -2; influence(0, 0) = 4; influence(1, 0) = -4");

        says("Influence", "white ones as much less.");
        run("board(7, 2); start(); go -- aa; influence(0, 0) = -8; influence(1, 0) = -4; influence(2, 0) = -2;"
            + "influence(3, 0) = -1; influence(4, 0) = 0; influence(5, 0) = 0; influence(1, 1) = -2");

        says("Influence", "The steps in columns are the fewer ones by the rule 'w', where it holds.");
        run("board(7, 2); rule('w', 1); start(); go aa; influence(6, 0) = 4; influence(5, 0) = 2; influence(4, 0) = 1;"
            + "influence(3, 0) = 1; influence(6, 1) = 2; influence(4, 1) = 0");
        run("board(6, 2); rule('w', 1); start(); go fa; influence(0, 0) = 4; influence(1, 0) = 2; influence(2, 0) = 1;"
            + "influence(3, 0) = 2");
        run("board(3, 7); rule('w', 1); start(); go aa; influence(2, 0) = 4; influence(0, 6) = 0; influence(0, 5) = 0");
        run("board(3, 2); rule('w', 0); start(); go aa; influence(2, 0) = 2");
        run("board(2, 2); rule('w', 1); start(); go aa; influence(1, 0) = 4; influence(1, 1) = 2");
    }

    private void patterns() {
        says("Patterns", "A pattern has 9 cells, by rows,");
        run("pattern(0, 'b') = '?'; pattern(8, 'w') = '?'; pattern(9, 'b') throws IndexOutOfBoundsException;"
            + "pattern(-1, 'b') throws IndexOutOfBoundsException; pattern(0, '?') = 'b'; pattern(8, '?') = 'w'");
        run("board(3, 3); start(); go aa ba; pattern(0, 'b'); pattern(1, 'w'); found() = 1; pattern(1, '?');"
            + "pattern(5, 'w'); found() = 0; pattern(5, '?'); pattern(3, 'w'); found() = 1; pattern(3, '?');"
            + "pattern(7, 'w'); found() = 0");

        says("Patterns", "each 'b', 'w', '.', '#' for what is blocked or beyond the board, or '?' for anything, as at"
            + " first.");
        for (int cell = 0; cell < 9; cell++) {
            run("pattern(" + cell + ", 'b') = '?'; pattern(" + cell + ", 'w') = 'b'; pattern(" + cell
                + ", '.') = 'w'; pattern(" + cell + ", '#') = '.'; pattern(" + cell + ", '?') = '#'; pattern(" + cell
                + ", '?') = '?'");
        }
        run("pattern(0, 'B') throws IllegalArgumentException; pattern(0, '-') throws IllegalArgumentException;"
            + "pattern(0, #0) throws IllegalArgumentException; pattern(0, #65535) throws IllegalArgumentException");
        run("board(3, 3); start(); found() = 9; pattern(1, '#'); found() = 8; pattern(3, '#'); found() = 4;"
            + "pattern(5, '#'); found() = 0; pattern(4, '.'); found() = 0");
        run("board(3, 3); block(1, 0); block(0, 1); start(); pattern(1, '#'); pattern(3, '#'); pattern(5, '#');"
            + "pattern(7, '#'); found() = 1; pattern(4, '.'); found() = 1; pattern(4, 'b'); found() = 0");
        run("board(3, 3); start(); go bb aa; pattern(4, 'b'); found() = 1; pattern(4, 'w'); found() = 1;"
            + "pattern(4, '.'); found() = 7; pattern(4, '#'); found() = 0; pattern(4, '?'); found() = 9");

        says("Patterns", "It is found at a point if it fits around it as it stands, or turned or mirrored in one of"
            + " the eight ways;");
        for (String turned : "aa ba,ca ba,aa ab,ac ab,ca cb,cc cb,ac bc,cc bc".split(",")) {
            run("board(3, 3); pattern(0, 'b'); pattern(1, 'w'); pattern(2, '.'); start(); go " + turned + ";"
                + "found() = 1");
        }
        run("board(3, 3); pattern(0, 'b'); pattern(1, 'w'); pattern(2, '.'); start(); go aa ba ca; found() = 0");

        says("Patterns", "the rule 'w' is not looked at for that.");
        for (int round = 0; round <= 1; round++) {
            run("board(3, 3); rule('w', " + round + "); pattern(3, '#'); start(); found() = 8; pattern(4, 'b');"
                + "found() = 0; go ab; found() = 1; pattern(3, 'w'); go cb; found() = 0");
        }
    }

    private void shapes() {
        says("Patterns", "The shape of the board is the least sum of all eight,");
        run("board(2, 2); block(1, 1); start(); go ab ba; looks .w/b#; shape() = " + sum(0, 1, 2, 3));
        run("board(2, 2); block(1, 1); start(); go ba ab; looks .b/w#; shape() = " + sum(0, 1, 2, 3));
        for (String turned : "aa ba,ca ba,aa ab,ac ab,ca cb,cc cb,ac bc,cc bc".split(",")) {
            run("board(3, 3); start(); go " + turned + "; shape() = " + sum(0, 0, 0, 0, 0, 0, 0, 2, 1));
        }

        says("Patterns", "or, if it is not as wide as high, of the four ways that keep this:");
        for (String corner : "aa ca ab cb".split(" ")) {
            run("board(3, 2); start(); go " + corner + "; shape() = " + sum(0, 0, 0, 0, 0, 1));
        }
        run("board(2, 3); block(0, 2); start(); go aa ba; looks bw/../#.; shape() = " + sum(0, 3, 0, 0, 2, 1));
        run("board(3, 2); block(2, 0); start(); go aa ab; looks b.#/w..; shape() = " + sum(0, 0, 2, 3, 0, 1));

        says("Patterns", "the sum is 7 at first, then for each point by rows 31 times itself plus 1 for black, 2 for"
            + " white, 3 if it is blocked, else 0.");
        run("board(2, 2); start(); shape() = " + sum(0, 0, 0, 0) + "; go bb; shape() = " + sum(0, 0, 0, 1));
        run("board(2, 2); start(); go -- bb; shape() = " + sum(0, 0, 0, 2));
        run("board(2, 2); block(1, 1); start(); shape() = " + sum(0, 0, 0, 3));
        largeShapes();
    }

    /** Sums of many points wrap around, so that the least one may be below 0. */
    private void largeShapes() {
        boolean below = false;
        for (int side = 6; side <= 7; side++) {
            for (int last = 0; last < side * side; last += 5) {
                int[] cells = new int[side * side];
                cells[1] = 1;
                cells[last] = last == 1 ? 1 : 2;
                long least = Long.MAX_VALUE;
                for (int way = 0; way < 8; way++) least = Math.min(least, bigSum(cells, side, way));
                below |= least < 0;
                String second = last == 1 ? "" : "play(" + last % side + ", " + last / side + ");";
                run("board(" + side + ", " + side + "); start(); play(1, 0);" + second + "shape() = " + least);
            }
        }
        check("whether a least sum is below 0", below, true);
    }

    private static long bigSum(int[] cells, int side, int way) {
        BigInteger sum = BigInteger.valueOf(7);
        for (int y = 0; y < side; y++) {
            for (int x = 0; x < side; x++) {
                int a = way % 2 == 0 ? x : side - 1 - x;
                int b = way / 2 % 2 == 0 ? y : side - 1 - y;
                int cell = way < 4 ? b * side + a : a * side + b;
                sum = sum.multiply(BigInteger.valueOf(31)).add(BigInteger.valueOf(cells[cell]));
            }
        }
        return sum.longValue();
    }

    private void clockNumbers() {
        says("Clocks", "Told ahead of a game, each player has main seconds, 0 to 3600, and periods, 0 to 5, of so"
            + " many seconds, 1 to 60, each.");
        run("clock(0, 0, 1) = -1; start(); periods('b') = 0; periods('w') = 0; think(1) = -2000");
        run("clock(3600, 5, 60) = -1; start(); periods('w') = 5; think(600) = 3000; think(600) = 2400;"
            + "think(600) = 1800; think(600) = 1200; think(600) = 600; think(599) = 1; think(1) = -940;"
            + "periods('b') = 5; think(59) = -999; think(1) = -940; periods('b') = 4; think(240) = -1000;"
            + "periods('b') = 0; think(1) = -2000; periods('w') = 5");
        run("clock(-1, 0, 1) throws IllegalArgumentException; clock(3601, 0, 1) throws IllegalArgumentException;"
            + "clock(0, -1, 1) throws IllegalArgumentException; clock(0, 6, 1) throws IllegalArgumentException;"
            + "clock(0, 0, 0) throws IllegalArgumentException; clock(0, 0, 61) throws IllegalArgumentException");
        run("start(); clock(5, 1, 1) = -1; think(1) throws UnsupportedOperationException;"
            + "periods('b') throws UnsupportedOperationException; start(); think(1) = 4; clock(100, 2, 9) = 5;"
            + "think(1) = 3; periods('b') = 1; start(); think(1) = 99; periods('b') = 2");
        run("clock(9, 1, 5); start(); think(2) = 7; go --; think(3) = 6; go aa; think(1) = 6; go bb; think(1) = 5");
    }

    private void timeThatGoesBy() {
        says("Clocks", "Time goes off the main time first;");
        run("clock(3, 1, 2); start(); think(2) = 1; periods('b') = 1; think(1) = -998; periods('b') = 1;"
            + "think(1) = -999");

        says("Clocks", "what is beyond that is of a period: as all its seconds have gone by in one move, there is one"
            + " period less;");
        run("clock(3, 2, 2); start(); think(4) = -999; periods('b') = 2; think(1) = -998; periods('b') = 1;"
            + "think(1) = -999; think(1) = -1000; periods('b') = 0");
        run("clock(0, 2, 2); start(); think(1) = -999; go -- aa; think(1) = -999; periods('b') = 2; think(1) = -998;"
            + "periods('b') = 1");
        run("clock(0, 5, 1); start(); think(1) = -999; periods('b') = 4; think(4) = -1000; periods('b') = 0;"
            + "isOver() = false");

        says("Clocks", "without main time and a period, time that goes by loses.");
        run("clock(1, 0, 60); start(); think(1) = -1000; isOver() = false; think(1) = -2000; isOver() = true;"
            + "winner() = 'w'");
        run("clock(0, 1, 1); start(); think(1) = -1000; periods('b') = 0; isOver() = false; go -- aa; isOver() = false;"
            + "think(1) = -2000; isOver() = true; winner() = 'w'");

        says("Clocks", "All seconds told go by, one after another, till one loses.");
        run("clock(2, 3, 2); start(); think(7) = -999; periods('b') = 1");
        run("clock(2, 3, 2); start(); think(8) = -1000; periods('b') = 0; isOver() = false");
        run("clock(2, 3, 2); start(); think(9) = -2000; periods('b') = 0; isOver() = true; periods('w') = 3");
        run("clock(0, 5, 60); start(); think(300) = -1000; isOver() = false");
        run("clock(0, 5, 60); start(); think(301) = -2000; isOver() = true");
        run("clock(599, 0, 1); start(); think(600) = -2000");
        run("clock(600, 0, 1); start(); think(600) = -1000");

        says("Clocks", "A move or a pass gives a period back its seconds.");
        run("clock(0, 1, 10); start(); think(4) = -994; go --; think(3) = -993; go aa; think(1) = -991; go bb;"
            + "think(1) = -991");
        // what is lost, or of the main time, doesn't come back; nor does a move of the other side or a refused one help
        run("clock(10, 1, 5); start(); think(3) = 7; go -- aa; think(1) = 6");
        run("clock(0, 2, 2); start(); think(3) = -999; go -- aa; periods('b') = 1; think(1) = -999");
        run("clock(0, 1, 10); start(); go --; think(4) = -994; undo(); go --; think(1) = -995");
        run("clock(0, 1, 10); start(); go aa bb; think(4) = -994; play(0, 0) throws UnsupportedOperationException;"
            + "think(1) = -995");
    }

    private void values() {
        says("Play", "The value for a depth, 0 to 2, is the margin by area, without dead stones,");
        run("board(2, 2); start(); value(-1) throws IllegalArgumentException; value(3) throws IllegalArgumentException;"
            + "value(0) = -13; value(1) = -5; value(2) = -13; go aa; margin() = -7; value(0) = 5");
        run("board(3, 3); start(); go bb aa -- --; dead(1, 1) = 1; undo(); value(0) = 13");
        run("board(2, 2); rule('p', 1); start(); go --; value(0) = 13; margin() = -15");

        says("Play", "for the player whose turn it is now, as it is for black, with the other sign for white,");
        run(TWO_POINTS + "start(); value(0) = 0; go aa; value(0) = -4; go --; value(0) = 4");
        run("komi(99); start(); value(0) = -99; go --; value(0) = 99");

        says("Play", "behind so many moves, or as two passes come before that, if both play best for themselves;");
        run(TWO_POINTS + "start(); value(0) = 0; value(1) = 4; value(2) = -4; go aa; value(1) = 4; value(2) = 4");
        run(ROW_OF_THREE + "komi(0); start(); value(0) = 0; value(1) = 6; value(2) = 6");
        // to pass behind a pass ends it, ahead of what white could do with one move more
        run("board(3, 3); komi(0); start(); go bb --; value(0) = 18; value(1) = 18; value(2) = 18; best(2) = -1");
        run("board(3, 3); komi(0); start(); go bb; value(2) = -2; go cc --; value(1) = 2; value(2) = 0");

        says("Play", "moves are all that are not barred, and passes.");
        run("board(2, 2);" + blockAllBut(2, 2, "bb") + "start() = 1; value(0) = -13; value(1) = -13; value(2) = -13;"
            + "best(1) = -1; best(2) = -1");
        run(TWO_POINTS + "start(); go aa ba; barred(0, 0) = 'k'; value(1) = -4; value(2) = -4; best(1) = -1;"
            + "best(2) = -1");
        run("board(3, 2); komi(0); rule('s', 1); start(); go ba -- bb aa -- ab; value(0) = 12; value(2) = 6;"
            + "best(2) = 0");
    }

    private void bestAndLoss() {
        says("Play", "The best move is the first point that comes to it,");
        run(TWO_POINTS + "start(); best(1) = 0; best(2) = 0; go aa; best(1) = 1; best(2) = 1");
        run(ROW_OF_THREE + "komi(0); start(); best(1) = 0; best(2) = 0; go ba; best(1) = 0; best(2) = 0");
        run("board(2, 2); start(); go aa -- bb --; value(1) = -5; best(1) = 1");

        says("Play", "or to pass, as -1, if none does.");
        run("board(2, 2); start(); go aa -- bb --; best(2) = -1; loss(1, 0, 2) = 16");
        run("board(2, 2); start(); go aa -- bb; barred(1, 0) = 's'; barred(0, 1) = 's'; best(1) = -1; best(2) = -1");

        says("Play", "The loss by a move is how much less than that it comes to.");
        run(ROW_OF_THREE + "komi(0); start(); loss(0, 0, 2) = 0; loss(0, 1, 2) = 12; loss(1, 0, 2) = 12;"
            + "loss(0, 1, 1) = 0; go ba; value(1) = 6; loss(0, 0, 1) = 0; loss(0, 1, 1) = 6");
    }

    private void exceptions() {
        says("Exceptions", "A method that throws an exception changes nothing.");
        run("board(3, 3); clock(9, 2, 3); komi(4); rule('k', 1); pattern(4, 'b'); handicap(0, 0); block(2, 2); start();"
            + "go bb cb --; think(1) = 8; play(0, 0) throws UnsupportedOperationException;"
            + "play(2, 2) throws UnsupportedOperationException; play(3, 0) throws IndexOutOfBoundsException;"
            + "dead(0, 0) throws UnsupportedOperationException; pattern(4, 'x') throws IllegalArgumentException;"
            + "rule('k', 3) throws IllegalArgumentException; komi(100) throws IllegalArgumentException;"
            + "board(3, 1) throws IllegalArgumentException; board(1, 3) throws IllegalArgumentException;"
            + "clock(1, 1, 0) throws IllegalArgumentException; block(2, 2) throws UnsupportedOperationException;"
            + "handicap(2, 2) throws UnsupportedOperationException; think(601) throws IllegalArgumentException;"
            + "value(3) throws IllegalArgumentException; best(0) throws IllegalArgumentException;"
            + "loss(0, 0, 1) throws UnsupportedOperationException; isCaught(0, 0, 5) throws IllegalArgumentException;"
            + "isCaught(0, 1, 1) throws NoSuchElementException; winner() throws NoSuchElementException;"
            + "sign(99) throws NoSuchElementException; score('x') throws IllegalArgumentException");

        says("Exceptions", "If several exceptions apply, the one that is documented first is thrown.");
        run("play(9, 9) throws IllegalStateException; loss(9, 9, 9) throws IllegalStateException;"
            + "isCaught(9, 9, 9) throws IllegalStateException; start();"
            + "isCaught(9, 9, 9) throws IndexOutOfBoundsException; isCaught(0, 0, 9) throws IllegalArgumentException;"
            + "loss(9, 9, 9) throws IndexOutOfBoundsException; play(0, 0) = 0;"
            + "loss(0, 0, 9) throws IllegalArgumentException; think(0) throws IllegalArgumentException");
    }
}
