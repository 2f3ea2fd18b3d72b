/** Promise 12: volume, with step 6 of a frame. */
public final class VolumeTest {
    public static void main(String[] args) {
        Check check = new Check();
        dots(check);
        energizer(check);
        hunterAndDeath(check);
        afterGame(check);
        MazeBoard board = Play.started("l5");
        int[] none = {-1, 3, 4, Integer.MIN_VALUE, Integer.MAX_VALUE};
        for (int voice : none) {
            check.due("volume(" + voice + ")", board.volume(voice), 0f);
        }
        check.end();
    }

    private static void dots(Check check) {
        MazeBoard board = Play.started("l4");
        volumes(check, board, "before a dot", 0f, 0.5f, 0f);
        board.frames(1);
        volumes(check, board, "a dot", 1f, 0.5f, 0f);
        board.frames(1);
        volumes(check, board, "a frame later", 0.9f, 0.5f, 0f);
        board.frames(1);
        volumes(check, board, "two frames later", 0.9f * 0.9f, 0.5f, 0f);
    }

    private static void energizer(Check check) {
        MazeBoard board = Play.started(Play.TO_ENERGIZER);
        volumes(check, board, "an energizer", 0.9f * 0.9f * 0.9f * 0.9f * 0.9f, 0.5f, 1.5f);
        board.frames(1);
        check.due("volume(2) a frame later", board.volume(2), 1.5f * 0.9f);
    }

    private static void hunterAndDeath(Check check) {
        MazeBoard board = Play.started("r60 k d5 r50");
        check.holds("volume(2) has faded", board.volume(2) < 0.1f);
        board.frames(1);
        check.due("volume(2) for a hunter", board.volume(2), 1.5f);
        board = Play.started(Play.UNTIL_BEFORE_DEATH);
        check.due("volume(2) before death", board.volume(2), 0f);
        board.frames(1);
        check.due("volume(2) at death", board.volume(2), 1.5f);
        check.due("volume(1) at death, but not at a game's end", board.volume(1), 0.5f);
    }

    private static void afterGame(Check check) {
        MazeBoard board = Play.started(Play.UNTIL_BEFORE_DEATH + " k n60 k n60 k n33 k n60 k n60 k n31");
        check.due("volume(1) in the last frame but one", board.volume(1), 0.5f);
        board.frames(1);
        check.due("the game is over", board.look(0), 0);
        check.due("volume(1) when it is over", board.volume(1), 0.5f * 0.9f);
        check.due("volume(2) when it is over", board.volume(2), 1.5f);
        board.frames(1);
        check.due("volume(1) later", board.volume(1), 0.5f * 0.9f * 0.9f);
        check.due("volume(2) later", board.volume(2), 1.5f * 0.9f);
    }

    private static void volumes(Check check, MazeBoard board, String when, float first, float second, float third) {
        check.due("volume(0), " + when, board.volume(0), first);
        check.due("volume(1), " + when, board.volume(1), second);
        check.due("volume(2), " + when, board.volume(2), third);
    }
}
