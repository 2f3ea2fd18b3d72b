/** Promise 4: stick. */
public final class StickTest {
    public static void main(String[] args) {
        Check check = new Check();
        answers(check);
        refusedKeepsDirection(check);
        turnsWhereItCan(check);
        nowhere(check);
        check.end();
    }

    private static void answers(Check check) {
        MazeBoard board = new MazeBoard();
        for (int direction = -1; direction <= 3; direction++) {
            check.due("stick(" + direction + ")", board.stick(direction), true);
        }
        int[] wrong = {-2, 4, 5, 100, -100, Integer.MIN_VALUE, Integer.MAX_VALUE};
        for (int direction : wrong) {
            check.due("stick(" + direction + ")", board.stick(direction), false);
        }
    }

    private static void refusedKeepsDirection(Check check) {
        MazeBoard board = Play.started();
        board.stick(3);
        board.stick(4);
        board.stick(-2);
        board.frames(1);
        check.due("the player", Play.tell(board, 0), "6,6 r");
    }

    private static void turnsWhereItCan(Check check) {
        MazeBoard board = Play.started("u3");
        check.due("up is a wall", Play.tell(board, 0), "6,6 l");
        Play.play(board, "r1");
        check.due("no turn between two cells", Play.tell(board, 0), "6,6 l");
        Play.play(board, "r1");
        check.due("it stops in the next cell", Play.tell(board, 0), "5,6 l");
        check.due("progress(0) there", board.progress(0), 0f);
        Play.play(board, "r1");
        check.due("and turns about", Play.tell(board, 0), "5,6 r");
        Play.play(board, "d4");
        check.due("the stick waits for an open cell", Play.tell(board, 0), "6,6 r");
        Play.play(board, "d5");
        check.due("7,7 is the first one below", Play.tell(board, 0), "7,6 r");
        check.due("progress(0) above it", board.progress(0), 0f);
        Play.play(board, "d5");
        check.due("it goes down", Play.tell(board, 0), "7,7 d");
    }

    private static void nowhere(Check check) {
        MazeBoard board = Play.started("r2");
        Play.play(board, "n3");
        check.due("it goes on to the right", Play.tell(board, 0), "7,6 r");
        check.holds("and does not stop in the cell", board.progress(0) > 0f);
        Play.play(board, "n10");
        check.due("until a wall", Play.tell(board, 0), "8,6 r");
        check.due("progress(0) at the wall", board.progress(0), 0f);
    }
}
