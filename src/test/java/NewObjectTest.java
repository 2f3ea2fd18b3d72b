/** Promise 1: a new object. */
public final class NewObjectTest {
    public static void main(String[] args) {
        Check check = new Check();
        MazeBoard board = new MazeBoard();
        for (int what = 0; what <= 11; what++) {
            check.due("look(" + what + ")", board.look(what), what == 6 ? 54 : 0);
        }
        check.due("the actors", Play.tellAll(board), Play.PLACED);
        for (int actor = 0; actor <= 4; actor++) {
            check.due("progress(" + actor + ")", board.progress(actor), 0f);
        }
        for (int voice = 0; voice <= 2; voice++) {
            check.due("volume(" + voice + ")", board.volume(voice), 0f);
        }
        check.due("sound()", board.sound(), 0f);
        stickPointsNowhere(check);
        nothingMovesWithoutGame(check);
        check.end();
    }

    /** A stick that points to an open cell would make PROGRESS 0 there. */
    private static void stickPointsNowhere(Check check) {
        MazeBoard board = Play.started();
        board.frames(5);
        check.due("the player", Play.tell(board, 0), "5,6 l");
        float progress = 0f;
        for (int i = 0; i < 5; i++) {
            progress += 0.2f * (1f + 0.05f * 1);
        }
        check.due("progress(0)", board.progress(0), progress - 1f);
    }

    private static void nothingMovesWithoutGame(Check check) {
        MazeBoard board = new MazeBoard();
        board.stick(3);
        board.frames(60);
        check.due("the actors without a game", Play.tellAll(board), Play.PLACED);
        check.due("progress(0) without a game", board.progress(0), 0f);
        check.due("the MODE time without a game", board.look(8), 0);
        check.due("the frames without a game", board.look(11), 60);
        check.due("volume(1) without a game", board.volume(1), 0f);
    }
}
