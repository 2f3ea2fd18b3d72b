/** Promise 3: start. */
public final class StartTest {
    public static void main(String[] args) {
        Check check = new Check();
        refusals(check);
        newGame(check);
        gameAfterGame(check);
        sameGameTwice(check);
        voicesGoOn(check);
        check.end();
    }

    private static void refusals(Check check) {
        MazeBoard board = new MazeBoard();
        String before = Play.everything(board);
        check.due("start() without a coin", board.start(), false);
        check.due("all, after a refused start", Play.everything(board), before);
        board.coin();
        board.coin();
        check.due("start() with two coins", board.start(), true);
        board.frames(7);
        before = Play.everything(board);
        check.due("start() during a game", board.start(), false);
        check.due("all, after a refused start during a game", Play.everything(board), before);
    }

    private static void newGame(Check check) {
        MazeBoard board = new MazeBoard();
        board.stick(3);
        board.frames(50);
        board.coin();
        check.due("start()", board.start(), true);
        int[] due = {1, 0, 0, 3, 1, 0, 54, 0, 0, 0, 50, 50};
        for (int what = 0; what < due.length; what++) {
            check.due("look(" + what + ")", board.look(what), due[what]);
        }
        check.due("the actors", Play.tellAll(board), Play.PLACED);
        board.frames(1);
        check.due("the stick is as it was", Play.tell(board, 0), "6,6 r");
    }

    private static MazeBoard over() {
        MazeBoard board = Play.started(Play.TO_ENERGIZER + " n30");
        Play.untilOver(board);
        return board;
    }

    private static void gameAfterGame(Check check) {
        MazeBoard board = over();
        check.due("look(0) when the game is over", board.look(0), 0);
        check.due("LIVES when the game is over", board.look(3), 0);
        check.due("LEVEL of the latest game", board.look(4), 1);
        check.holds("score of the latest game", board.look(1) >= 100);
        check.holds("dots were eaten", board.look(6) < 50);
        int best = board.look(2);
        check.due("the best", best, board.look(1));
        check.due("start() without another coin", board.start(), false);
        board.coin();
        check.due("start() of a second game", board.start(), true);
        int[] due = {1, 0, best, 3, 1, 0, 54, 0, 0, 0, 0};
        for (int what = 0; what < due.length; what++) {
            check.due("second game, look(" + what + ")", board.look(what), due[what]);
        }
        check.due("second game, the actors", Play.tellAll(board), Play.PLACED);
        check.due("second game, progress(1)", board.progress(1), 0f);
    }

    /** The generator is 1 again, so that frightened hunters take the same ways. */
    private static void sameGameTwice(Check check) {
        MazeBoard board = over();
        board.coin();
        board.start();
        MazeBoard other = Play.started();
        String[] moves = {"l10", "d5", "l15", "n30", "k", "n60"};
        for (String move : moves) {
            Play.play(board, move);
            Play.play(other, move);
            check.due("the second game after " + move, Play.tellAll(board), Play.tellAll(other));
        }
        check.due("a drawn way", Play.tell(other, 1), "1,4 r");
    }

    /** What start() does not name stays as it is: the sound of the last death goes on. */
    private static void voicesGoOn(Check check) {
        MazeBoard board = Play.started("n60 k n60 k n32 k n60 k n60 k n32 k n60 k n60 k n32");
        board.coin();
        float sound = board.sound();
        check.due("volume(2) when the game is over", board.volume(2), 1.5f);
        check.due("start()", board.start(), true);
        check.due("volume(2) after start()", board.volume(2), 1.5f);
        check.due("sound() after start()", board.sound(), sound);
    }
}
