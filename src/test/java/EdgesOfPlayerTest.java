/** The edges of a frame's steps 1 and 2, and of the maze for the player: promise 6, a test for each sentence. */
public final class EdgesOfPlayerTest {
    private static final String STEP_1 = "Promise 6, step 1";
    private static final String STEP_2 = "Promise 6, step 2";

    private final Check check = new Check();

    public static void main(String[] args) {
        EdgesOfPlayerTest test = new EdgesOfPlayerTest();
        test.noGame();
        test.frightFalls();
        test.roundTheSides();
        test.houseAndWalls();
        test.turning();
        test.speed();
        test.hardlyMoreThanOne();
        test.entering();
        test.dotThatWasEntered();
        test.leastFright();
        test.leavingHunters();
        test.turningAbout();
        test.turningAboutInCell();
        test.check.end();
    }

    private void noGame() {
        check.sentence("Promise 6", "A FRAME, if a game is on, does in this order:");
        MazeBoard board = new MazeBoard();
        board.stick(3);
        board.frames(60);
        check.due("the actors", Play.tellAll(board), Play.PLACED);
        check.due("MODE time", board.look(8), 0);
        check.due("score", board.look(1), 0);
        check.due("the watchdog", board.look(10), 60);
        board = Play.started("l5");
        Play.untilOver(board);
        int mode = board.look(8);
        String actors = Play.tellAll(board);
        board.frames(60);
        check.due("MODE time when the game is over", board.look(8), mode);
        check.due("the actors when the game is over", Play.tellAll(board), actors);
    }

    private void frightFalls() {
        check.sentence(STEP_1, "FRIGHT falls by 1 if it is above 0 (at 0 nobody is frightened any more); "
            + "otherwise the MODE time grows by 1.");
        MazeBoard board = Play.started("l10 d5 l14");
        frightAndMode(board, "before the energizer", 0, 29, 0);
        board.frames(1);
        frightAndMode(board, "with the energizer", 85, 30, 1);
        board.frames(1);
        frightAndMode(board, "a frame later", 84, 30, 1);
        board.kick();
        board.frames(60);
        board.frames(23);
        frightAndMode(board, "in the last frame of fright", 1, 30, 1);
        board.frames(1);
        frightAndMode(board, "when FRIGHT has fallen to 0", 0, 30, 0);
        board.frames(1);
        frightAndMode(board, "a frame after that", 0, 31, 0);
    }

    private void frightAndMode(MazeBoard board, String when, int fright, int mode, int frightened) {
        check.due("FRIGHT " + when, board.look(7), fright);
        check.due("MODE time " + when, board.look(8), mode);
        check.due("hunter 1 " + when, board.actor(1, 3), frightened);
    }

    private void roundTheSides() {
        check.sentence(STEP_2, "Left of column 0 is column 12, and the other way round.");
        MazeBoard board = Play.started("l10 u5 l5 u5 l15");
        check.due("the player", Play.tell(board, 0), "0,4 l");
        Play.play(board, "l4");
        check.due("the player", Play.tell(board, 0), "0,4 l");
        Play.play(board, "l1");
        check.due("the player beyond the left side", Play.tell(board, 0), "12,4 l");
        check.due("the dot there", board.cell(12, 4), 0);
        Play.play(board, "r4");
        check.due("the player", Play.tell(board, 0), "12,4 r");
        Play.play(board, "r1");
        check.due("the player beyond the right side", Play.tell(board, 0), "0,4 r");
    }

    private void houseAndWalls() {
        check.sentence(STEP_2, "A cell is OPEN to the player if it is neither wall nor house");
        MazeBoard board = Play.started("l10 u5 l5 u10 r5 u5 r3 d6");
        check.due("the player beside the door", Play.tell(board, 0), "5,2 r");
        board.frames(1);
        check.due("the player over the door", Play.tell(board, 0), "6,2 r");
        check.holds("a stick to the house does not stop it", board.progress(0) > 0f);

        board = Play.started("r10 n10 u5 r5 u10 l5 u5 l10");
        check.due("the player", Play.tell(board, 0), "6,2 l");
        check.due("it stands", board.progress(0), 0f);
        Play.play(board, "d1");
        check.due("it does not turn to the house", Play.tell(board, 0), "6,2 l");
        Play.play(board, "d4");
        check.due("it goes on beside the house", Play.tell(board, 0), "5,2 l");

        board = Play.started("u1");
        check.due("it does not turn to a wall", Play.tell(board, 0), "6,6 l");
    }

    private void turning() {
        check.sentence(STEP_2, "if the stick points to a direction whose next cell is open, and the player stands "
            + "(PROGRESS is 0), it turns there.");
        MazeBoard board = Play.started("r1");
        check.due("it stood, and turned", Play.tell(board, 0), "6,6 r");
        board = Play.started("l1 r1");
        check.due("it did not stand", Play.tell(board, 0), "6,6 l");
        Play.play(board, "r2");
        check.due("it did not stand", Play.tell(board, 0), "6,6 l");
        Play.play(board, "r1");
        check.due("it comes to stand", Play.tell(board, 0), "5,6 l");
        Play.play(board, "r1");
        check.due("it stood, and turned", Play.tell(board, 0), "5,6 r");
        board = Play.started("n10 n5 u1");
        check.due("it stood at a wall, and turned", Play.tell(board, 0), "4,6 u");
        board = Play.started("n10 l1");
        check.due("left is a wall", Play.tell(board, 0), "4,6 l");
        check.due("it stands there", board.progress(0), 0f);
    }

    private void speed() {
        check.sentence(STEP_2, "PROGRESS grows by its SPEED, 0.2 * (1 + 0.05 * LEVEL), with LEVEL at most 4");
        for (int level = 1; level <= 8; level++) {
            MazeBoard board = Play.started(Ways.toLevel(level));
            check.due("LEVEL", board.look(4), level);
            board.frames(1);
            check.due("progress(0) in level " + level, board.progress(0), 0.2f * (1f + 0.05f * Math.min(4, level)));
        }
    }

    /** From level 4 on the steps of six cells without a stop add up to hardly more than 6. */
    private void hardlyMoreThanOne() {
        check.sentence(STEP_2, "when it is 1 or more then, the player enters the next cell, PROGRESS becomes less by 1");
        MazeBoard board = Play.started("n4");
        float speed = 0.2f * (1f + 0.05f * 1);
        float progress = speed + speed + speed + speed;
        check.due("below 1", Play.tell(board, 0), "6,6 l");
        check.due("progress(0) below 1", board.progress(0), progress);
        board.frames(1);
        check.due("above 1", Play.tell(board, 0), "5,6 l");
        check.due("progress(0) less 1", board.progress(0), progress + speed - 1f);

        board = Play.started(Ways.toLevel(4) + " l10 k u5 l5 u5 l1 n23");
        check.due("in level 4", Play.tell(board, 0), "11,4 l");
        progress = board.progress(0) + 0.2f * (1f + 0.05f * 4);
        check.holds("hardly more than 1 is due", progress > 1f && progress < 1.000001f);
        board.frames(1);
        check.due("hardly more than 1", Play.tell(board, 0), "10,4 l");
        check.due("progress(0) is hardly more than 0", board.progress(0), progress - 1f);
        board.frames(1);
        check.due("and it goes on", board.progress(0), progress - 1f + 0.2f * (1f + 0.05f * 4));
    }

    private void entering() {
        check.sentence(STEP_2, "if the next cell in its direction is not open then, or the stick points to an open one, "
            + "PROGRESS becomes 0. If it is not open, PROGRESS is 0.");
        check.holds("no stick, an open cell: it goes on", Play.started("n5").progress(0) > 0f);
        check.due("no stick, a wall", Play.started("n10").progress(0), 0f);
        check.due("no stick, a wall, later", Play.started("n11").progress(0), 0f);
        check.due("the stick points on", Play.started("l5").progress(0), 0f);
        check.due("the stick points back", Play.started("l4 r1").progress(0), 0f);
        check.due("the stick points to the side", Play.started("l9 u1").progress(0), 0f);
        check.holds("the stick points to a wall, an open cell: it goes on", Play.started("u5").progress(0) > 0f);
        check.due("the stick points to a wall, a wall", Play.started("l10").progress(0), 0f);
    }

    private void dotThatWasEntered() {
        check.sentence(STEP_2, "A dot in the cell that was entered is eaten: 10 points");
        MazeBoard board = Play.started("l4");
        check.due("the player stands on a dot that it has not entered", board.cell(6, 6), 2);
        check.due("score", board.look(1), 0);
        check.due("left", board.look(6), 54);
        Play.play(board, "l1");
        check.due("score, with the cell entered", board.look(1), 10);
        check.due("left", board.look(6), 53);
        Play.play(board, "r5 l5");
        check.due("score, with the first cell entered, and an empty one", board.look(1), 20);
        check.due("left", board.look(6), 52);
    }

    private void leastFright() {
        check.sentence(STEP_2, "FRIGHT is 100 - 15 * LEVEL, but at least 10");
        int[] due = {85, 70, 55, 40, 25, 10, 10, 10};
        for (int level = 1; level <= 8; level++) {
            MazeBoard board = Play.started(Ways.toLevel(level) + " l10 d5 l14");
            check.due("FRIGHT before, in level " + level, board.look(7), 0);
            check.due("cell(1, 7) before", board.cell(1, 7), 3);
            board.frames(1);
            check.due("FRIGHT in level " + level, board.look(7), due[level - 1]);
            check.due("LEVEL", board.look(4), level);
            check.due("hunter 1 is frightened", board.actor(1, 3), 1);
        }
    }

    /** Hunter 2 leaves the house with PROGRESS above 0, hunters 3 and 4 rest. */
    private void leavingHunters() {
        check.sentence(STEP_2, "all hunters that are not LEAVING are frightened and turn about");
        MazeBoard board = Play.started("l10 n15 d5 l14");
        check.due("the hunters before", hunters(board), "8,2 u; 6,4 u L0; 5,4 u L36; 7,4 u L76");
        board.frames(1);
        check.due("FRIGHT", board.look(7), 85);
        check.due("the hunters", hunters(board), "8,1 d F; 6,4 u L0; 5,4 u L35; 7,4 u L75");
        board = Play.started("l10 r20 l20 d5 l1 u43");
        check.due("the hunters before", hunters(board), "10,1 l F; 5,2 r F; 6,2 r; 7,4 u L21");
        board.frames(1);
        check.due("FRIGHT", board.look(7), 85);
        check.due("frightened ones turn about too", hunters(board), "9,1 r F; 6,2 l F; 7,2 l F; 7,4 u L20");
    }

    private static String hunters(MazeBoard board) {
        return Play.tell(board, 1) + "; " + Play.tell(board, 2) + "; " + Play.tell(board, 3) + "; " + Play.tell(board, 4);
    }

    private void turningAbout() {
        check.sentence(STEP_2, "if PROGRESS is not 0, they are in the next cell of their direction, "
            + "it becomes the opposite one, and PROGRESS 1 less what it was");
        MazeBoard board = Play.started("l10 d5 l14");
        check.due("hunter 1 before", Play.tell(board, 1), "5,2 r");
        float due = 1f - board.progress(1) + 0.19f * (1f + 0.04f * 1) / 2f;
        board.frames(1);
        check.due("hunter 1", Play.tell(board, 1), "6,2 l F");
        check.due("progress(1)", board.progress(1), due);
    }

    private void turningAboutInCell() {
        check.sentence(STEP_2, "if it is 0, the direction becomes the opposite one, "
            + "but only if the next cell there is open to them.");
        float half = 0.19f * (1f + 0.04f * 1) / 2f;
        MazeBoard board = Play.started(Ways.BEFORE_TURN);
        check.due("progress(3)", board.progress(3), 0f);
        check.due("hunter 3", Play.tell(board, 3), "4,7 l F");
        board.frames(1);
        check.due("hunter 3, an open cell behind it", Play.tell(board, 3), "4,7 r F");
        check.due("progress(3)", board.progress(3), half);
        board = Play.started(Ways.BEFORE_NO_TURN);
        check.due("progress(3)", board.progress(3), 0f);
        check.due("hunter 3", Play.tell(board, 3), "11,7 l");
        board.frames(1);
        check.due("hunter 3, a wall behind it", Play.tell(board, 3), "11,7 l F");
        check.due("progress(3)", board.progress(3), half);
    }
}
