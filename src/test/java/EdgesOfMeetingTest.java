/** The edges of a frame's steps 4 and 5, and of score and LIVES: promise 6, a test for each sentence. */
public final class EdgesOfMeetingTest {
    private static final String STEP_4 = "Promise 6, step 4";
    private static final String STEP_5 = "Promise 6, step 5";

    private final Check check = new Check();

    public static void main(String[] args) {
        EdgesOfMeetingTest test = new EdgesOfMeetingTest();
        test.inOneCell();
        test.changedCells();
        test.chain();
        test.eatenHunter();
        test.lastLife();
        test.nothingMoreIsMet();
        test.placedInFright();
        test.lastDot();
        test.lastEnergizer();
        test.deathWithLastDot();
        test.newLevelIsFull();
        test.extraLife();
        test.extraLifeInEachGame();
        test.best();
        test.check.end();
    }

    private void inOneCell() {
        check.sentence(STEP_4, "if it is in the player's cell");
        MazeBoard board = Play.started(Play.UNTIL_BEFORE_DEATH);
        check.due("the player", Play.tell(board, 0), "4,6 l");
        check.due("hunter 1 in the cell above", Play.tell(board, 1), "4,5 d");
        check.due("LIVES", board.look(3), 3);
        board.frames(1);
        check.due("LIVES", board.look(3), 2);
    }

    private void changedCells() {
        check.sentence(STEP_4, "or they changed cells with one another in this frame");
        MazeBoard board = Play.started("l10 u5 n1 l5 u5 l25 d5 u14");
        check.due("the player and hunter 1", Play.tell(board, 0) + "; " + Play.tell(board, 1), "11,3 u; 11,2 d");
        check.due("LIVES", board.look(3), 3);
        board.frames(1);
        check.due("LIVES", board.look(3), 2);
        check.due("the actors", Play.tellAll(board), Play.PLACED);

        board = Play.started("n11 r20 u5 d10 r15 k u30 l19");
        check.due("the player and hunter 2", Play.tell(board, 0) + "; " + Play.tell(board, 2), "8,1 l; 7,1 r F");
        int score = board.look(1);
        board.frames(1);
        check.due("score, a dot and a hunter more", board.look(1), score + 10 + 400);
        check.due("hunter 2", Play.tell(board, 2), "6,4 u L30");

        board = Play.started("r10 l20 d5 l15 n2 u29");
        check.due("the player and hunter 2", Play.tell(board, 0) + "; " + Play.tell(board, 2), "1,2 u; 1,1 d");
        score = board.look(1);
        board.frames(1);
        check.due("score, an energizer more, and a hunter that turned about", board.look(1), score + 50 + 200);
        check.due("hunter 2", Play.tell(board, 2), "6,4 u L30");
    }

    private void chain() {
        check.sentence(STEP_4, "200 points, twice as many for each one before in the CHAIN "
            + "(which grows by 1, at most to 3)");
        MazeBoard board = Play.started("r60 k d5 l60 k r60 k u25 d60 k u30");
        check.due("score", board.look(1), 810);
        check.due("CHAIN", board.look(9), 0);
        Play.play(board, "d10");
        check.due("score, and 200", board.look(1), 1010);
        check.due("CHAIN", board.look(9), 1);
        Play.play(board, "d5");
        check.due("score, and 400, and 800", board.look(1), 2210);
        check.due("CHAIN", board.look(9), 3);
        Play.play(board, "d36");
        check.due("score, and 1600", board.look(1), 3810);
        check.due("CHAIN is at most 3", board.look(9), 3);
    }

    private void eatenHunter() {
        check.sentence(STEP_4, "it is at (6, 4), direction 0, PROGRESS 0, LEAVING, RESTING for 30 frames, not frightened");
        MazeBoard board = Play.started("r60 k d5 r51");
        int eaten = 0;
        for (int hunter = 1; hunter <= 4; hunter++) {
            eaten = Play.tell(board, hunter).equals("6,4 u L30") ? hunter : eaten;
        }
        check.due("who was eaten", eaten, 1);
        check.due("its PROGRESS", board.progress(eaten), 0f);
        board.kick();
        board.frames(29);
        check.due("29 frames later", Play.tell(board, eaten), "6,4 u L1");
        board.frames(1);
        check.due("30 frames later", Play.tell(board, eaten), "6,4 u L0");
        check.due("its PROGRESS", board.progress(eaten), 0f);
        board.frames(1);
        check.holds("then it moves", board.progress(eaten) > 0f);
    }

    private void lastLife() {
        check.sentence(STEP_4, "a life less, nothing more is met; without lives the game is OVER, else all are placed.");
        MazeBoard board = Play.started();
        for (int lives = 3; lives >= 2; lives--) {
            Play.play(board, "k n60 k n60 k n31");
            check.due("LIVES before", board.look(3), lives);
            board.frames(1);
            check.due("LIVES", board.look(3), lives - 1);
            check.due("a game is on", board.look(0), 1);
            check.due("all are placed", Play.tellAll(board), Play.PLACED);
        }
        Play.play(board, "k n60 k n60 k n31");
        check.due("the last life", board.look(3), 1);
        board.frames(1);
        check.due("no life", board.look(3), 0);
        check.due("no game is on", board.look(0), 0);
        check.due("nobody is placed", Play.tell(board, 0) + "; " + Play.tell(board, 1), "4,6 l; 4,6 d");
        check.due("MODE time", board.look(8), 152);
    }

    /** Hunters 1 and 2 are in the player's cell, and it had one life. */
    private void nothingMoreIsMet() {
        check.sentence(STEP_4, "nothing more is met");
        MazeBoard board = Play.started("n60 k n60 k n60 k n60 k n60 k n4 l10 r20 u5 d10 r15 k l20 r20 u30 k l20 r20 d30 k "
            + "u30 l20 r20 k d30 u4");
        check.due("the last life", board.look(3), 1);
        board.frames(1);
        check.due("the player, hunters 1 and 2", Play.tell(board, 0) + "; " + Play.tell(board, 1) + "; "
            + Play.tell(board, 2), "11,6 u; 11,6 d; 11,6 d");
        check.due("LIVES", board.look(3), 0);
        check.due("no game is on", board.look(0), 0);
    }

    private void placedInFright() {
        check.sentence("Promise 6, PLACING", "nobody is frightened, FRIGHT and the MODE time are 0.");
        MazeBoard board = Play.started("l10 d5 l15 r15 l2 u38");
        check.due("FRIGHT", board.look(7), 30);
        check.due("MODE time", board.look(8), 30);
        check.due("hunter 1", Play.tell(board, 1), "2,1 l F");
        board.frames(1);
        check.due("LIVES", board.look(3), 2);
        check.due("FRIGHT when placed", board.look(7), 0);
        check.due("MODE time when placed", board.look(8), 0);
        check.due("the actors when placed", Play.tellAll(board), Play.PLACED);
        for (int actor = 0; actor <= 4; actor++) {
            check.due("progress(" + actor + ") when placed", board.progress(actor), 0f);
        }
        board.frames(1);
        check.due("MODE time grows at once", board.look(8), 1);
    }

    private void lastDot() {
        check.sentence(STEP_5, "If no dot and no energizer is left (and the player did not die): the LEVEL grows by 1, "
            + "they are there again, all are placed.");
        MazeBoard board = Play.started(Ways.FIRST_LEVEL + " d4");
        check.due("left", board.look(6), 1);
        check.due("LEVEL with one left", board.look(4), 1);
        board.frames(1);
        check.due("LEVEL with none left", board.look(4), 2);
        check.due("left", board.look(6), 54);
        check.due("the actors", Play.tellAll(board), Play.PLACED);
        check.due("MODE time", board.look(8), 0);
    }

    private void lastEnergizer() {
        check.sentence(STEP_5, "If no dot and no energizer is left");
        MazeBoard board = Play.started(Ways.ENERGIZER_IS_LAST);
        check.due("left", board.look(6), 1);
        check.due("cell(1, 7)", board.cell(1, 7), 3);
        check.due("LEVEL with an energizer left", board.look(4), 1);
        int score = board.look(1);
        board.frames(1);
        check.due("LEVEL with none left", board.look(4), 2);
        check.due("score", board.look(1), score + 50);
        check.due("left", board.look(6), 54);
        check.due("FRIGHT, since all are placed", board.look(7), 0);
        check.due("the actors", Play.tellAll(board), Play.PLACED);
    }

    private void deathWithLastDot() {
        check.sentence(STEP_5, "(and the player did not die)");
        MazeBoard board = Play.started(Ways.BEFORE_LAST_DEATH);
        check.due("left", board.look(6), 1);
        int lives = board.look(3);
        board.frames(1);
        check.due("left", board.look(6), 0);
        check.due("LIVES", board.look(3), lives - 1);
        check.due("LEVEL", board.look(4), 1);
        board = Play.started("n60 k n60 k n32 k " + Ways.BEFORE_LAST_DEATH);
        check.due("left, with the last life", board.look(6), 1);
        check.due("the last life", board.look(3), 1);
        board.frames(1);
        check.due("left, when the game is over", board.look(6), 0);
        check.due("no game is on", board.look(0), 0);
        check.due("LEVEL when the game is over", board.look(4), 1);
        board.frames(1);
        check.due("LEVEL later", board.look(4), 1);
        check.due("left later", board.look(6), 0);
    }

    private void newLevelIsFull() {
        check.sentence("Promise 6, Terms", "Dots and energizers are there at the beginning of each LEVEL.");
        MazeBoard board = Play.started(Ways.toLevel(2));
        check.due("LEVEL", board.look(4), 2);
        for (int row = 0; row < 9; row++) {
            for (int column = 0; column < 13; column++) {
                int due = " #.o=".indexOf(Model.PLAN[row].charAt(column));
                check.due("cell(" + column + ", " + row + ")", board.cell(column, row), due);
            }
        }
    }

    private void extraLife() {
        check.sentence("Promise 7, LIVES", "When the score comes to 3000 or more for the first time in a game, "
            + "LIVES grow by 1.");
        MazeBoard board = Play.started(Ways.AT_2990);
        check.due("score", board.look(1), 2990);
        check.due("LIVES below 3000", board.look(3), 3);
        board.frames(1);
        check.due("score", board.look(1), 3000);
        check.due("LIVES at 3000", board.look(3), 4);
        Play.play(board, "d5");
        check.due("score", board.look(1), 3010);
        check.due("LIVES above 3000", board.look(3), 4);
        board = Play.started("r60 k d5 l60 k r60 k u25 d60 k u30 d15 d35");
        check.due("score", board.look(1), 2210);
        check.due("LIVES", board.look(3), 3);
        board.frames(1);
        check.due("score, far more than 3000", board.look(1), 3810);
        check.due("LIVES", board.look(3), 4);
    }

    private void extraLifeInEachGame() {
        check.sentence("Promise 7, LIVES", "for the first time in a game");
        MazeBoard board = Play.started(Ways.AT_2990 + " l1");
        check.due("LIVES in the first game", board.look(3), 4);
        Play.untilOver(board);
        board.coin();
        board.start();
        check.due("LIVES at the beginning of the second game", board.look(3), 3);
        Play.play(board, Ways.AT_2990);
        check.due("LIVES below 3000", board.look(3), 3);
        board.frames(1);
        check.due("LIVES at 3000", board.look(3), 4);
    }

    private void best() {
        check.sentence("Promise 7, best", "The BEST score is the greatest that was reached.");
        MazeBoard board = Play.started("n10");
        check.due("the best of the first game, while it is on", board.look(2), 20);
        Play.untilOver(board);
        check.due("the first game's score", board.look(1), 20);
        board.coin();
        board.start();
        int[] scores = {10, 20, 30};
        int[] bests = {20, 20, 30};
        board.stick(1);
        for (int i = 0; i < 3; i++) {
            if (i == 2) {
                board.stick(2);
            }
            board.frames(5);
            check.due("the second game's score", board.look(1), scores[i]);
            check.due("the best", board.look(2), bests[i]);
        }
    }
}
