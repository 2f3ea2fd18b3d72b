/** Promise 5: kick, with the watchdog of a frame's seventh step. */
public final class KickTest {
    public static void main(String[] args) {
        Check check = new Check();
        kickKeepsBoard(check);
        resetAt120(check);
        resetWithinCall(check);
        resetWithoutGame(check);
        check.end();
    }

    private static void kickKeepsBoard(Check check) {
        MazeBoard board = Play.started();
        board.frames(60);
        board.frames(59);
        check.due("look(10)", board.look(10), 119);
        check.due("look(0)", board.look(0), 1);
        String before = Play.tellAll(board);
        board.kick();
        check.due("look(10) after a kick", board.look(10), 0);
        check.due("the actors after a kick", Play.tellAll(board), before);
        check.due("the frames after a kick", board.look(11), 119);
        board.frames(1);
        check.due("look(10) a frame later", board.look(10), 1);
        check.due("look(0) a frame later", board.look(0), 1);
        board.kick();
        board.kick();
        check.due("look(10) after two kicks", board.look(10), 0);
    }

    private static void resetAt120(Check check) {
        MazeBoard board = Play.started(Play.TO_ENERGIZER + " n60 l29");
        board.coin();
        board.stick(3);
        check.due("look(10)", board.look(10), 119);
        check.due("coins", board.look(5), 1);
        check.due("score", board.look(1), 100);
        board.frames(1);
        int[] due = {0, 0, 100, 0, 0, 0, 54, 0, 0, 0, 0, 120};
        for (int what = 0; what < due.length; what++) {
            check.due("look(" + what + ") after a reset", board.look(what), due[what]);
        }
        check.due("the actors after a reset", Play.tellAll(board), Play.PLACED);
        for (int i = 0; i <= 4; i++) {
            check.due("progress(" + i + ") after a reset", board.progress(i), 0f);
            check.due("volume(" + i + ") after a reset", board.volume(i), 0f);
        }
        check.due("cell(1, 7) after a reset", board.cell(1, 7), 3);
        check.due("start() after a reset", board.start(), false);
        startsAsAtFirst(check, board);
    }

    /** Stick, generator, pitches and accumulators are as at first too: all goes on as on a new board. */
    private static void startsAsAtFirst(Check check, MazeBoard board) {
        MazeBoard other = new MazeBoard();
        board.coin();
        board.start();
        other.coin();
        other.start();
        String[] moves = {"", "l10", "d5", "l15", "n30"};
        for (String move : moves) {
            if (move.isEmpty()) {
                board.frames(5);
                other.frames(5);
            } else {
                Play.play(board, move);
                Play.play(other, move);
            }
            check.due("the actors after " + move, Play.tellAll(board), Play.tellAll(other));
            check.due("progress(0) after " + move, board.progress(0), other.progress(0));
            check.due("sound() after " + move, board.sound(), other.sound());
        }
    }

    private static void resetWithinCall(Check check) {
        MazeBoard board = Play.started();
        board.frames(60);
        board.frames(50);
        check.due("frames(60)", board.frames(60), 60);
        check.due("look(0)", board.look(0), 0);
        check.due("look(10)", board.look(10), 50);
        check.due("look(11)", board.look(11), 170);
        check.due("volume(1)", board.volume(1), 0f);
    }

    private static void resetWithoutGame(Check check) {
        MazeBoard board = new MazeBoard();
        board.coin();
        board.frames(60);
        board.frames(59);
        check.due("coins", board.look(5), 1);
        board.frames(1);
        check.due("coins after a reset", board.look(5), 0);
        check.due("look(10) after a reset", board.look(10), 0);
    }
}
