/** Promise 2: coin. */
public final class CoinTest {
    public static void main(String[] args) {
        Check check = new Check();
        MazeBoard board = new MazeBoard();
        for (int i = 1; i <= 9; i++) {
            check.due("coin " + i, board.coin(), true);
            check.due("look(5)", board.look(5), i);
        }
        String before = Play.everything(board);
        check.due("coin 10", board.coin(), false);
        check.due("coin 11", board.coin(), false);
        check.due("all, after refused coins", Play.everything(board), before);
        check.due("start()", board.start(), true);
        check.due("look(5) after start", board.look(5), 8);
        check.due("a coin during a game", board.coin(), true);
        check.due("look(5) during a game", board.look(5), 9);
        check.due("one too many during a game", board.coin(), false);
        check.end();
    }
}
