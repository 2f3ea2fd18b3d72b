/** The edges of a frame's step 7: promises 5 and 6, a test for each sentence. */
public final class EdgesOfWatchdogTest {
    private static final String STEP_7 = "Promise 5, step 7";

    private final Check check = new Check();

    public static void main(String[] args) {
        EdgesOfWatchdogTest test = new EdgesOfWatchdogTest();
        test.limit();
        test.withinCall();
        test.withoutGame();
        test.allButFramesAndBest();
        test.asAtFirst();
        test.check.end();
    }

    private void limit() {
        check.sentence(STEP_7, "it grows by 1; when it is 120, RESET");
        MazeBoard board = Play.started("n60 n58");
        check.due("the watchdog", board.look(10), 118);
        board.frames(1);
        check.due("the watchdog", board.look(10), 119);
        check.due("a game is on", board.look(0), 1);
        board.frames(1);
        check.due("the watchdog after 120 frames", board.look(10), 0);
        check.due("no game is on", board.look(0), 0);
        board = Play.started("n60 n59 k n60 n59");
        check.due("the watchdog, kicked once", board.look(10), 119);
        check.due("a game is on, since it was kicked", board.look(0), 1);
        board.kick();
        board.frames(1);
        check.due("the watchdog, kicked twice", board.look(10), 1);
        check.due("a game is on, since it was kicked twice", board.look(0), 1);
    }

    /** The frames after a reset pass too, and the watchdog grows with them. */
    private void withinCall() {
        check.sentence("Promise 6, step 7", "Lets n frames pass; how many");
        MazeBoard board = Play.started("n60 n50");
        check.due("frames(60)", board.frames(60), 60);
        check.due("no game is on", board.look(0), 0);
        check.due("the watchdog", board.look(10), 50);
        check.due("the frames", board.look(11), 170);
        check.due("MODE time", board.look(8), 0);
        check.due("volume(1)", board.volume(1), 0f);
    }

    private void withoutGame() {
        check.sentence(STEP_7, "In any frame, game or not");
        MazeBoard board = new MazeBoard();
        board.coin();
        board.frames(60);
        board.frames(59);
        check.due("coins", board.look(5), 1);
        board.frames(1);
        check.due("coins after a reset", board.look(5), 0);
        check.due("start() after a reset", board.start(), false);
        check.due("the frames", board.look(11), 120);
    }

    private void allButFramesAndBest() {
        check.sentence(STEP_7, "all is as at first, but for the frames that are counted and the best score.");
        MazeBoard board = Play.started("r60 k d5 r60 n54");
        board.coin();
        board.stick(3);
        check.due("the watchdog", board.look(10), 119);
        check.due("CHAIN", board.look(9), 1);
        check.due("coins", board.look(5), 1);
        int best = board.look(2);
        check.holds("there is a best score", best >= 300);
        board.frames(1);
        int[] due = {0, 0, best, 0, 0, 0, 54, 0, 0, 0, 0, 180};
        for (int what = 0; what < due.length; what++) {
            check.due("look(" + what + ")", board.look(what), due[what]);
        }
        check.due("the actors", Play.tellAll(board), Play.PLACED);
        for (int i = 0; i <= 4; i++) {
            check.due("progress(" + i + ")", board.progress(i), 0f);
            check.due("volume(" + i + ")", board.volume(i), 0f);
        }
        check.due("sound()", board.sound(), 0f);
        board.frames(1);
        check.due("sound() a frame later", board.sound(), 0f);
        board.coin();
        board.start();
        board.frames(5);
        check.due("the best, while a new game has less", board.look(2), best);
    }

    /** Stick, generator, pitches and ACCUMULATORS: a game goes on as it does on a new object. */
    private void asAtFirst() {
        check.sentence(STEP_7, "RESET: all is as at first");
        MazeBoard board = Play.started("l10 d5 l15 n30 k n60 r59");
        check.due("the watchdog", board.look(10), 119);
        board.frames(1);
        MazeBoard other = new MazeBoard();
        board.coin();
        board.start();
        other.coin();
        other.start();
        board.frames(6);
        other.frames(6);
        check.due("progress(0), with no stick", board.progress(0), other.progress(0));
        check.due("sound()", board.sound(), other.sound());
        for (String move : new String[] {"l10", "d5", "l15", "n30"}) {
            Play.play(board, move);
            Play.play(other, move);
            check.due("the actors after " + move, Play.tellAll(board), Play.tellAll(other));
            check.due("sound() after " + move, board.sound(), other.sound());
        }
    }
}
