/** Promise 7: look. */
public final class LookTest {
    public static void main(String[] args) {
        Check check = new Check();
        MazeBoard board = new MazeBoard();
        board.coin();
        board.coin();
        board.coin();
        board.start();
        Play.play(board, Play.TO_ENERGIZER + " n3");
        int[] due = {1, 100, 100, 3, 1, 2, 48, 82, 30, 0, 33, 33};
        for (int what = 0; what < due.length; what++) {
            check.due("look(" + what + ")", board.look(what), due[what]);
        }
        int[] wrong = {-1, 12, 13, -100, Integer.MIN_VALUE, Integer.MAX_VALUE};
        for (int what : wrong) {
            check.due("look(" + what + ")", board.look(what), -1);
        }
        board = Play.started("r60 k d5 r51");
        check.due("the CHAIN", board.look(9), 1);
        check.due("the score", board.look(1), 300);
        check.due("the frames", board.look(11), 116);
        check.due("the watchdog", board.look(10), 56);
        check.end();
    }
}
